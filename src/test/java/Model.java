import java.util.ArrayList;
import java.util.Collections;
import java.util.HashMap;
import java.util.LinkedHashSet;
import java.util.List;
import java.util.Map;
import java.util.Set;
import java.util.TreeSet;

/** The document once more, as plainly as the Java library allows: trees, maps and copied terms. */
final class Model {
    /** A variable has a name beginning with A .. Z; an atom is a tree, too, "=" over its two sides. */
    record Tree(String name, List<Tree> parts) {
        boolean variable() {
            return Character.isUpperCase(name.charAt(0));
        }

        int size() {
            int sum = 1;
            for (Tree part : parts) {
                sum += part.size();
            }
            return sum;
        }

        String text() {
            if (name.equals("=")) {
                return parts.get(0).text() + "=" + parts.get(1).text();
            }
            List<String> texts = new ArrayList<>();
            for (Tree part : parts) {
                texts.add(part.text());
            }
            return parts.isEmpty() ? name : name + "(" + String.join(",", texts) + ")";
        }
    }

    record Literal(boolean negated, Tree atom) {
        String text() {
            return (negated ? "~" : "") + atom.text();
        }
    }

    record Entry(List<Literal> literals, int depth, Set<Integer> needs) {
    }

    /** Carries a fault to the call that it belongs to. */
    static final class Fault extends Exception {
        private static final long serialVersionUID = 1L;
        final int code;

        Fault(int code) {
            this.code = code;
        }
    }

    final List<Entry> entries = new ArrayList<>();
    final Map<String, String> uses = new HashMap<>();
    final StringBuilder draft = new StringBuilder();
    int fault;

    boolean write(char c) {
        if (draft.length() == 60 || c < 32 || c > 126) {
            return false;
        }
        draft.append(c);
        return true;
    }

    int given() {
        String text = draft.toString();
        draft.setLength(0);
        try {
            List<Literal> literals = read(text);
            if (entries.size() == 30) {
                throw new Fault(-3);
            }
            Set<Integer> needs = new TreeSet<>();
            needs.add(entries.size());
            add(new Entry(named(literals), 0, needs));
            fault = 0;
            return entries.size() - 1;
        } catch (Fault f) {
            fault = f.code;
            return Check.thrownFor(fault);
        }
    }

    int step(int[] s) {
        String text = draft.toString();
        draft.setLength(0);
        try {
            add(made(s, text));
            fault = 0;
            return entries.size() - 1;
        } catch (Fault f) {
            fault = f.code;
            return Check.thrownFor(fault);
        }
    }

    private void add(Entry entry) throws Fault {
        entries.add(entry);
        for (Literal literal : entry.literals) {
            use(literal.atom, true, uses);
        }
    }

    // ---- reading ----

    List<Literal> read(String text) throws Fault {
        Set<Literal> found = new LinkedHashSet<>();
        if (!text.equals("#")) {
            for (String piece : text.split("\\|", -1)) {
                boolean negated = piece.startsWith("~");
                found.add(new Literal(negated, atom(negated ? piece.substring(1) : piece)));
            }
        }
        int size = 0;
        for (Literal literal : found) {
            size += literal.atom.size();
        }
        if (found.size() > 6 || size > 40) {
            throw new Fault(-1);
        }
        Map<String, String> trial = new HashMap<>(uses);
        for (Literal literal : found) {
            use(literal.atom, true, trial);
        }
        return new ArrayList<>(found);
    }

    private static Tree atom(String text) throws Fault {
        String[] sides = text.split("=", -1);
        if (sides.length == 2) {
            return new Tree("=", List.of(term(sides[0]), term(sides[1])));
        }
        Tree atom = term(text);
        if (sides.length > 2 || atom.variable()) {
            throw new Fault(-1);
        }
        return atom;
    }

    private static Tree term(String text) throws Fault {
        if (text.matches("[A-Za-z]")) {
            return new Tree(text, List.of());
        }
        if (!text.matches("[a-z]\\(.+\\)")) {
            throw new Fault(-1);
        }
        List<Tree> parts = new ArrayList<>();
        int open = 0;
        int from = 2;
        for (int at = 2; at < text.length(); at++) {
            char c = text.charAt(at);
            boolean last = at == text.length() - 1;
            if (open == 0 && (c == ',' || last)) {
                parts.add(term(text.substring(from, at)));
                from = at + 1;
            }
            open += c == '(' ? 1 : c == ')' ? -1 : 0;
            if (open < 0 && !last) {
                throw new Fault(-1);
            }
        }
        if (open != -1 || parts.size() > 3) {
            throw new Fault(-1);
        }
        return new Tree(text.substring(0, 1), parts);
    }

    private static void use(Tree tree, boolean isAtom, Map<String, String> uses) throws Fault {
        boolean letter = !tree.variable() && !tree.name.equals("=");
        if (letter) {
            String use = (isAtom ? "predicate" : "function") + tree.parts.size();
            String before = uses.putIfAbsent(tree.name, use);
            if (before != null && !before.equals(use)) {
                throw new Fault(-2);
            }
        }
        for (Tree part : tree.parts) {
            use(part, false, uses);
        }
    }

    // ---- steps ----

    /** The entry that a step makes, which is not added. */
    Entry made(int[] s, String text) throws Fault {
        if (entries.size() == 30) {
            throw new Fault(-3);
        }
        int rule = s[0];
        boolean two = rule == 0 || rule == 3;
        need(rule >= 0 && rule <= 4 && has(s[1]) && (!two || has(s[3])));
        Entry first = entries.get(s[1]);
        Entry second = two ? entries.get(s[3]) : first;
        need(rule == 4 || s[2] >= 0 && s[2] < first.literals.size());
        need(rule == 4 || rule == 2 || s[4] >= 0 && s[4] < second.literals.size());
        need(rule != 4 || !text.isEmpty());
        if (rule == 3) {
            int place = s[5] >= 100 ? s[5] - 100 : s[5];
            List<Tree> terms = terms(second.literals.get(s[4]).atom);
            need(place >= 0 && place < terms.size() && !terms.get(place).variable());
        }
        List<Literal> claim = text.isEmpty() ? null : read(text);
        List<Literal> result;
        if (rule == 4) {
            if (!specialises(first.literals, 0, claim, Map.of())) {
                throw new Fault(-8);
            }
            result = named(claim);
        } else {
            result = result(rule, first.literals, s[2], second.literals, s[4], s[5]);
            if (claim != null && !named(claim).equals(result)) {
                throw new Fault(-8);
            }
        }
        Set<Integer> needs = new TreeSet<>(first.needs);
        needs.addAll(second.needs);
        return new Entry(result, 1 + Math.max(first.depth, second.depth), needs);
    }

    private static void need(boolean there) throws Fault {
        if (!there) {
            throw new Fault(-4);
        }
    }

    private boolean has(int number) {
        return number >= 0 && number < entries.size();
    }

    /** All terms in an atom, each before those in it. */
    static List<Tree> terms(Tree atom) {
        List<Tree> found = new ArrayList<>();
        for (Tree part : atom.parts) {
            found.add(part);
            found.addAll(terms(part));
        }
        return found;
    }

    private static List<Literal> result(int rule, List<Literal> first, int k, List<Literal> second, int l, int p)
            throws Fault {
        List<Literal> left = new ArrayList<>(first);
        List<Literal> right = new ArrayList<>();
        Literal chosen = first.get(k);
        Map<String, Tree> unifier;
        if (rule == 0 || rule == 3) {
            for (Literal literal : second) {
                right.add(new Literal(literal.negated, apart(literal.atom)));
            }
        }
        if (rule == 0) {
            Literal partner = right.get(l);
            fit(chosen.negated != partner.negated);
            unifier = unifier(chosen.atom, partner.atom);
            left.remove(k);
            right.remove(l);
        } else if (rule == 1) {
            Literal partner = first.get(l);
            fit(k != l && chosen.negated == partner.negated);
            unifier = unifier(chosen.atom, partner.atom);
            left.remove(l);
        } else if (rule == 2) {
            fit(chosen.negated && chosen.atom.name.equals("="));
            unifier = unifier(chosen.atom.parts.get(0), chosen.atom.parts.get(1));
            left.remove(k);
        } else {
            fit(!chosen.negated && chosen.atom.name.equals("="));
            List<Tree> sides = new ArrayList<>(chosen.atom.parts);
            if (p >= 100) {
                Collections.reverse(sides);
            }
            Literal partner = right.get(l);
            int place = p >= 100 ? p - 100 : p;
            unifier = unifier(sides.get(0), terms(partner.atom).get(place));
            int[] counter = {place + 1};
            right.set(l, new Literal(partner.negated, replaced(partner.atom, counter, sides.get(1))));
            left.remove(k);
        }
        left.addAll(right);
        return finished(left, unifier);
    }

    private static void fit(boolean fits) throws Fault {
        if (!fits) {
            throw new Fault(-5);
        }
    }

    private static Tree apart(Tree tree) {
        List<Tree> parts = new ArrayList<>();
        for (Tree part : tree.parts) {
            parts.add(apart(part));
        }
        return new Tree(tree.variable() ? tree.name + "2" : tree.name, parts);
    }

    private static Tree replaced(Tree tree, int[] counter, Tree by) {
        if (counter[0]-- == 0) {
            return by;
        }
        List<Tree> parts = new ArrayList<>();
        for (Tree part : tree.parts) {
            parts.add(replaced(part, counter, by));
        }
        return new Tree(tree.name, parts);
    }

    private static Map<String, Tree> unifier(Tree one, Tree other) throws Fault {
        Map<String, Tree> unifier = new HashMap<>();
        unify(one, other, unifier);
        return unifier;
    }

    private static void unify(Tree one, Tree other, Map<String, Tree> unifier) throws Fault {
        Tree a = with(one, unifier);
        Tree b = with(other, unifier);
        if (a.equals(b)) {
            return;
        }
        if (a.variable() || b.variable()) {
            Tree variable = a.variable() ? a : b;
            Tree value = a.variable() ? b : a;
            if (value.equals(variable) || terms(value).contains(variable)) {
                throw new Fault(-6);
            }
            unifier.replaceAll((name, tree) -> with(tree, Map.of(variable.name, value)));
            unifier.put(variable.name, value);
            return;
        }
        if (!a.name.equals(b.name) || a.parts.size() != b.parts.size()) {
            throw new Fault(-6);
        }
        for (int part = 0; part < a.parts.size(); part++) {
            unify(a.parts.get(part), b.parts.get(part), unifier);
        }
    }

    private static Tree with(Tree tree, Map<String, Tree> substitution) {
        if (tree.variable()) {
            return substitution.getOrDefault(tree.name, tree);
        }
        List<Tree> parts = new ArrayList<>();
        for (Tree part : tree.parts) {
            parts.add(with(part, substitution));
        }
        return new Tree(tree.name, parts);
    }

    private static List<Literal> finished(List<Literal> literals, Map<String, Tree> unifier) throws Fault {
        Set<Literal> found = new LinkedHashSet<>();
        Set<String> variables = new TreeSet<>();
        int size = 0;
        for (Literal literal : literals) {
            found.add(new Literal(literal.negated, with(literal.atom, unifier)));
        }
        for (Literal literal : found) {
            size += literal.atom.size();
            for (Tree term : terms(literal.atom)) {
                if (term.variable()) {
                    variables.add(term.name);
                }
            }
        }
        if (found.size() > 6 || size > 40 || variables.size() > 26) {
            throw new Fault(-7);
        }
        return named(new ArrayList<>(found));
    }

    static List<Literal> named(List<Literal> literals) {
        Map<String, Tree> names = new HashMap<>();
        List<Literal> out = new ArrayList<>();
        for (Literal literal : literals) {
            for (Tree term : terms(literal.atom)) {
                if (term.variable() && !names.containsKey(term.name)) {
                    names.put(term.name, new Tree("" + (char) ('A' + names.size()), List.of()));
                }
            }
            out.add(new Literal(literal.negated, with(literal.atom, names)));
        }
        return out;
    }

    private static boolean specialises(List<Literal> general, int from, List<Literal> claim, Map<String, Tree> given) {
        if (from == general.size()) {
            return true;
        }
        for (Literal target : claim) {
            Map<String, Tree> substitution = new HashMap<>(given);
            if (target.negated == general.get(from).negated
                    && matches(general.get(from).atom, target.atom, substitution)
                    && specialises(general, from + 1, claim, substitution)) {
                return true;
            }
        }
        return false;
    }

    private static boolean matches(Tree general, Tree special, Map<String, Tree> substitution) {
        if (general.variable()) {
            Tree before = substitution.putIfAbsent(general.name, special);
            return before == null || before.equals(special);
        }
        if (!general.name.equals(special.name) || general.parts.size() != special.parts.size()) {
            return false;
        }
        for (int part = 0; part < general.parts.size(); part++) {
            if (!matches(general.parts.get(part), special.parts.get(part), substitution)) {
                return false;
            }
        }
        return true;
    }

    // ---- questions ----

    String text(int clause) {
        if (!has(clause)) {
            return "";
        }
        return text(entries.get(clause).literals);
    }

    static String text(List<Literal> literals) {
        List<String> texts = new ArrayList<>();
        for (Literal literal : literals) {
            texts.add(literal.text());
        }
        return texts.isEmpty() ? "#" : String.join("|", texts);
    }

    int literals(int clause) {
        return has(clause) ? entries.get(clause).literals.size() : -1;
    }

    int size(int clause) {
        return has(clause) ? (int) text(clause).chars().filter(c -> Character.isLetter(c) || c == '=').count() : -1;
    }

    int depth(int clause) {
        return has(clause) ? entries.get(clause).depth : -1;
    }

    boolean needs(int clause, int need) {
        return has(clause) && entries.get(clause).needs.contains(need);
    }

    int refuted() {
        for (int clause = 0; clause < entries.size(); clause++) {
            if (entries.get(clause).literals.isEmpty()) {
                return clause;
            }
        }
        return -1;
    }

    boolean trivial(int clause) {
        if (!has(clause)) {
            return false;
        }
        List<Literal> literals = entries.get(clause).literals;
        for (Literal literal : literals) {
            List<Tree> parts = literal.atom.parts;
            boolean sides = literal.atom.name.equals("=") && parts.get(0).equals(parts.get(1));
            if (!literal.negated && sides || literals.contains(new Literal(!literal.negated, literal.atom))) {
                return true;
            }
        }
        return false;
    }
}
