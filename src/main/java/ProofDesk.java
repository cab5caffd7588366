import java.util.Arrays;
import java.util.NoSuchElementException;

/** A checker of refutations; see README.md for its use. */
public final class ProofDesk {
    private static final int MAX_DRAFT = 60;
    private static final int MAX_CLAUSES = 30;
    private static final int MAX_LITERALS = 6;
    private static final int MAX_SIZE = 40;
    private static final int MAX_VARIABLES = 26;
    private static final int MAX_TERMS = 3;
    private static final int LETTERS = 26;

    private static final int RESOLUTION = 0;
    private static final int FACTORING = 1;
    private static final int REFLECTION = 2;
    private static final int REWRITING = 3;
    private static final int SPECIALISING = 4;
    private static final int TURNED_ROUND = 100;

    private static final int NO_FAULT = 0;
    private static final int SYNTAX = -1;
    private static final int USE = -2;
    private static final int NO_ROOM = -3;
    private static final int NOT_THERE = -4;
    private static final int NO_FIT = -5;
    private static final int NO_UNIFIER = -6;
    private static final int GREAT = -7;
    private static final int WRONG_CLAIM = -8;

    private final Draft paper;
    private final Clause[] desk;
    private int count;
    private final Uses uses;
    private final Form claim;
    private boolean claimed;
    private int claimFault;
    private final Deduction deduction;
    private final Matcher matcher;
    private int latestFault;

    public ProofDesk() {
        paper = new Draft();
        desk = new Clause[MAX_CLAUSES];
        uses = new Uses();
        claim = new Form();
        deduction = new Deduction();
        matcher = new Matcher();
    }

    public boolean write(char c) {
        return paper.append(c);
    }

    public int given() throws IllegalArgumentException, IllegalStateException {
        takeDraft();
        latestFault = claimFault == NO_FAULT && count >= MAX_CLAUSES ? NO_ROOM : claimFault;
        if (latestFault == NO_ROOM) {
            throw new IllegalStateException("there are 30 clauses");
        }
        if (latestFault != NO_FAULT) {
            throw new IllegalArgumentException("the draft can't be read as a clause");
        }
        addClause(claim, 0, 1 << count);
        return count - 1;
    }

    public int step(int rule, int i, int k, int j, int l, int p)
            throws IllegalStateException, NoSuchElementException, IllegalArgumentException,
            UnsupportedOperationException {
        takeDraft();
        latestFault = attempt(rule, i, k, j, l, p);
        if (latestFault == NO_ROOM) {
            throw new IllegalStateException("there are 30 clauses");
        }
        if (latestFault == NOT_THERE) {
            throw new NoSuchElementException("a clause, literal, rule, place or claim is not there");
        }
        if (latestFault == SYNTAX || latestFault == USE) {
            throw new IllegalArgumentException("the claim can't be read as a clause");
        }
        if (latestFault != NO_FAULT) {
            throw new UnsupportedOperationException("the step is not right");
        }
        return count - 1;
    }

    public int fault() {
        return latestFault;
    }

    public int clauses() {
        return count;
    }

    public int literals(int clause) {
        Clause found = clauseAt(clause);
        return found == null ? -1 : found.form.count;
    }

    public int size(int clause) {
        Clause found = clauseAt(clause);
        return found == null ? -1 : found.form.length;
    }

    public int letter(int clause, int i) {
        Clause found = clauseAt(clause);
        if (found == null || i < 0 || i >= found.text.length()) {
            return -1;
        }
        return found.text.charAt(i);
    }

    public int depth(int clause) {
        Clause found = clauseAt(clause);
        return found == null ? -1 : found.level;
    }

    public boolean needs(int clause, int need) {
        Clause found = clauseAt(clause);
        if (found == null || need < 0 || need >= count) {
            return false;
        }
        return (found.sources >> need & 1) == 1;
    }

    public int refuted() {
        for (int number = 0; number < count; number++) {
            Clause found = clauseAt(number);
            if (found != null && found.form.count == 0) {
                return number;
            }
        }
        return -1;
    }

    public boolean trivial(int clause) {
        Clause found = clauseAt(clause);
        return found != null && found.form.isAlwaysTrue();
    }

    public int draft() {
        return paper.length;
    }

    private Clause clauseAt(int number) {
        return number < 0 || number >= count ? null : desk[number];
    }

    /** The draft is read at once, since it is gone whatever the call then answers. */
    private void takeDraft() {
        claimed = paper.length > 0;
        if (!paper.read(claim)) {
            claimFault = SYNTAX;
        } else {
            claimFault = uses.allow(claim) ? NO_FAULT : USE;
        }
        claim.nameVariables();
        paper.length = 0;
    }

    /** Adds the clause of a right step, or tells the first fault in the document's order. */
    private int attempt(int rule, int i, int k, int j, int l, int p) {
        if (count >= MAX_CLAUSES) {
            return NO_ROOM;
        }
        Clause first = clauseAt(i);
        Clause second = hasTwoParents(rule) ? clauseAt(j) : first;
        if (first == null || second == null || !isThere(rule, first.form, k, second.form, l, p)) {
            return NOT_THERE;
        }
        if (claimed && claimFault != NO_FAULT) {
            return claimFault;
        }
        int why = rule == SPECIALISING ? NO_FAULT : deduction.apply(rule, first.form, k, second.form, l, p);
        if (why != NO_FAULT) {
            return why;
        }
        if (claimed && !isClaimRight(rule, first.form)) {
            return WRONG_CLAIM;
        }
        Form made = rule == SPECIALISING ? claim : deduction.result;
        addClause(made, 1 + Math.max(first.level, second.level), first.sources | second.sources);
        return NO_FAULT;
    }

    private boolean isClaimRight(int rule, Form parent) {
        return rule == SPECIALISING ? matcher.canSpecialise(parent, claim) : deduction.result.isSame(claim);
    }

    private static boolean hasTwoParents(int rule) {
        return rule == RESOLUTION || rule == REWRITING;
    }

    private boolean isThere(int rule, Form first, int k, Form second, int l, int p) {
        switch (rule) {
            case RESOLUTION:
                return first.hasLiteral(k) && second.hasLiteral(l);
            case FACTORING:
                return first.hasLiteral(k) && first.hasLiteral(l);
            case REFLECTION:
                return first.hasLiteral(k);
            case REWRITING:
                return first.hasLiteral(k) && second.hasLiteral(l) && second.hasFunction(l, placeOf(p));
            case SPECIALISING:
                return claimed;
            default:
                return false;
        }
    }

    private static int placeOf(int p) {
        return p >= TURNED_ROUND ? p - TURNED_ROUND : p;
    }

    private void addClause(Form form, int level, int sources) {
        if (count < MAX_CLAUSES) {
            uses.keep(form);
            desk[count] = new Clause(new Form(form), level, sources, textOf(form));
            count++;
        }
    }

    private static String textOf(Form form) {
        if (form.count == 0) {
            return "#";
        }
        StringBuilder out = new StringBuilder();
        for (int literal = 0; literal < form.count; literal++) {
            if (literal > 0) {
                out.append('|');
            }
            if (form.negated[literal]) {
                out.append('~');
            }
            int at = form.start(literal);
            if (form.isEquation(literal)) {
                at = appendTerm(out, form, at + 1, 0);
                out.append('=');
            }
            appendTerm(out, form, at, 0);
        }
        return out.toString();
    }

    /** Answers where the next term begins. */
    private static int appendTerm(StringBuilder out, Form form, int at, int level) {
        if (level >= MAX_SIZE || at >= form.length) {
            return form.length;
        }
        int symbol = form.symbols[at];
        int terms = Symbol.terms(symbol);
        int next = at + 1;
        out.append(Symbol.character(symbol));
        for (int term = 0; term < terms; term++) {
            out.append(term == 0 ? '(' : ',');
            next = appendTerm(out, form, next, level + 1);
        }
        if (terms > 0) {
            out.append(')');
        }
        return next;
    }

    /** A symbol is four times its name and its number of terms, so that one comparison looks at both. */
    private static final class Symbol {
        static final int EQUALS = 4 * LETTERS + 2;
        static final int FIRST_VARIABLE = 128;

        static int ofLetter(char c, int terms) {
            return 4 * (c - 'a') + terms;
        }

        static int ofVariable(int variable) {
            return FIRST_VARIABLE + 4 * variable;
        }

        static boolean isVariable(int symbol) {
            return symbol >= FIRST_VARIABLE;
        }

        static int variable(int symbol) {
            return (symbol - FIRST_VARIABLE) / 4;
        }

        static int name(int symbol) {
            return symbol / 4;
        }

        static int terms(int symbol) {
            return symbol % 4;
        }

        static char character(int symbol) {
            return (char) (isVariable(symbol) ? 'A' + variable(symbol) : 'a' + name(symbol));
        }
    }

    /** A clause that was added. */
    private static final class Clause {
        final Form form;
        final int level;
        final int sources;
        final String text;

        Clause(Form form, int level, int sources, String text) {
            this.form = form;
            this.level = level;
            this.sources = sources;
            this.text = text;
        }
    }

    /**
     * Literals one behind another. The symbols of an atom stand in the order of its text, but "=" before its sides:
     * so every atom begins with what its terms belong to, and the terms behind it are counted by their places.
     */
    private static final class Form {
        final int[] symbols;
        final int[] ends;
        final boolean[] negated;
        int count;
        int length;
        private int opened;

        /** Has room for a whole clause and one literal more, which may still prove to be the same as another. */
        Form() {
            symbols = new int[2 * MAX_SIZE];
            ends = new int[MAX_LITERALS + 1];
            negated = new boolean[MAX_LITERALS + 1];
        }

        /** A copy that is kept: it has just the room that it needs. */
        Form(Form other) {
            symbols = Arrays.copyOf(other.symbols, other.length);
            ends = Arrays.copyOf(other.ends, other.count);
            negated = new boolean[other.count];
            for (int literal = 0; literal < other.count; literal++) {
                negated[literal] = other.negated[literal];
            }
            count = other.count;
            length = other.length;
        }

        void clear() {
            count = 0;
            length = 0;
        }

        int start(int literal) {
            return literal == 0 ? 0 : ends[literal - 1];
        }

        boolean hasLiteral(int literal) {
            return literal >= 0 && literal < count;
        }

        boolean isEquation(int literal) {
            return symbols[start(literal)] == Symbol.EQUALS;
        }

        boolean hasFunction(int literal, int place) {
            int first = start(literal) + 1;
            return place >= 0 && place < ends[literal] - first && !Symbol.isVariable(symbols[first + place]);
        }

        void open(boolean negative) {
            opened = length;
            if (count < negated.length) {
                negated[count] = negative;
            }
        }

        /** False when the open literal is greater than any clause may be. */
        boolean put(int symbol) {
            if (length >= symbols.length || length - opened >= MAX_SIZE) {
                return false;
            }
            symbols[length] = symbol;
            length++;
            return true;
        }

        /** Ends the open literal, which counts only where it stands first; false when the clause is then too great. */
        boolean close() {
            if (count > MAX_LITERALS) {
                return false;
            }
            ends[count] = length;
            for (int earlier = 0; earlier < count; earlier++) {
                if (negated[earlier] == negated[count] && hasSameAtom(earlier, count)) {
                    length = opened;
                    return true;
                }
            }
            count++;
            return count <= MAX_LITERALS && length <= MAX_SIZE;
        }

        boolean hasSameAtom(int one, int other) {
            int from = start(one);
            int to = start(other);
            return ends[one] - from == ends[other] - to && hasSameSymbols(from, to, ends[one] - from);
        }

        boolean hasSameSymbols(int one, int other, int many) {
            if (one + many > length || other + many > length) {
                return false;
            }
            for (int at = 0; at < many; at++) {
                if (symbols[one + at] != symbols[other + at]) {
                    return false;
                }
            }
            return true;
        }

        int termEnd(int from) {
            int open = 1;
            int at = from;
            while (at < length && open > 0) {
                open += Symbol.terms(symbols[at]) - 1;
                at++;
            }
            return at;
        }

        /** Calls the variables 0, 1, .. as they come first, and answers how many there are. */
        int nameVariables() {
            int many = 0;
            for (int at = 0; at < length; at++) {
                if (Symbol.isVariable(symbols[at])) {
                    many++;
                    replaceFrom(at, symbols[at], -many);
                }
            }
            for (int at = 0; at < length; at++) {
                if (symbols[at] < 0) {
                    symbols[at] = Symbol.ofVariable(-symbols[at] - 1);
                }
            }
            return many;
        }

        /** The new names are below 0 at first, so that none of them is taken for an old one. */
        private void replaceFrom(int from, int symbol, int by) {
            for (int at = from; at < length; at++) {
                if (symbols[at] == symbol) {
                    symbols[at] = by;
                }
            }
        }

        boolean isSame(Form other) {
            if (count != other.count || length != other.length) {
                return false;
            }
            for (int literal = 0; literal < count; literal++) {
                if (ends[literal] != other.ends[literal] || negated[literal] != other.negated[literal]) {
                    return false;
                }
            }
            for (int at = 0; at < length; at++) {
                if (symbols[at] != other.symbols[at]) {
                    return false;
                }
            }
            return true;
        }

        boolean isAlwaysTrue() {
            for (int literal = 0; literal < count; literal++) {
                if (!negated[literal] && isEquation(literal) && hasSameSides(literal)) {
                    return true;
                }
                for (int earlier = 0; earlier < literal; earlier++) {
                    if (negated[earlier] != negated[literal] && hasSameAtom(earlier, literal)) {
                        return true;
                    }
                }
            }
            return false;
        }

        private boolean hasSameSides(int literal) {
            int left = start(literal) + 1;
            int right = termEnd(left);
            return right - left == ends[literal] - right && hasSameSymbols(left, right, right - left);
        }
    }

    /** How the letters a .. z are used: 0 not yet, 1 .. 4 a function of 0 .. 3 terms, 5 .. 8 such a predicate. */
    private static final class Uses {
        private static final int PREDICATE = 4;
        private final int[] known;
        private final int[] trial;

        Uses() {
            known = new int[LETTERS];
            trial = new int[LETTERS];
        }

        boolean allow(Form form) {
            System.arraycopy(known, 0, trial, 0, LETTERS);
            return enter(form, trial);
        }

        void keep(Form form) {
            enter(form, known);
        }

        private static boolean enter(Form form, int[] uses) {
            for (int literal = 0; literal < form.count; literal++) {
                int root = form.start(literal);
                for (int at = root; at < form.ends[literal]; at++) {
                    int symbol = form.symbols[at];
                    int name = Symbol.name(symbol);
                    int use = 1 + Symbol.terms(symbol) + (at == root ? PREDICATE : 0);
                    if (name < LETTERS && uses[name] != 0 && uses[name] != use) {
                        return false;
                    }
                    if (name < LETTERS) {
                        uses[name] = use;
                    }
                }
            }
            return true;
        }
    }

    /** The text that is being written, and its reading as a clause. */
    private static final class Draft {
        private final char[] text;
        private int at;
        int length;

        Draft() {
            text = new char[MAX_DRAFT];
        }

        boolean append(char c) {
            if (length >= MAX_DRAFT || c < ' ' || c > '~') {
                return false;
            }
            text[length] = c;
            length++;
            return true;
        }

        /** False when the text is no clause. */
        boolean read(Form out) {
            at = 0;
            out.clear();
            return readClause(out);
        }

        private boolean readClause(Form out) {
            if (length == 1 && text[0] == '#') {
                return true;
            }
            for (int literal = 0; literal < MAX_DRAFT; literal++) {
                if (!readLiteral(out)) {
                    return false;
                }
                if (at == length) {
                    return true;
                }
                if (!take('|')) {
                    return false;
                }
            }
            return false;
        }

        private boolean readLiteral(Form out) {
            out.open(take('~'));
            if (isEquationAhead()) {
                return out.put(Symbol.EQUALS) && readTerm(out, 0) && take('=') && readTerm(out, 0) && out.close();
            }
            return !isVariableAhead() && readTerm(out, 0) && out.close();
        }

        /** The sign between the sides is looked for first, because it is kept before both. */
        private boolean isEquationAhead() {
            for (int ahead = at; ahead < length && text[ahead] != '|'; ahead++) {
                if (text[ahead] == '=') {
                    return true;
                }
            }
            return false;
        }

        private boolean isVariableAhead() {
            return at < length && text[at] >= 'A' && text[at] <= 'Z';
        }

        private boolean readTerm(Form out, int level) {
            if (level >= MAX_DRAFT / 2 || at >= length) {
                return false;
            }
            char c = text[at];
            if (isVariableAhead()) {
                at++;
                return out.put(Symbol.ofVariable(c - 'A'));
            }
            if (c < 'a' || c > 'z') {
                return false;
            }
            at++;
            int place = out.length;
            if (!out.put(Symbol.ofLetter(c, 0))) {
                return false;
            }
            if (!take('(')) {
                return true;
            }
            for (int terms = 1; terms <= MAX_TERMS; terms++) {
                if (!readTerm(out, level + 1)) {
                    return false;
                }
                if (take(')')) {
                    out.symbols[place] = Symbol.ofLetter(c, terms);
                    return true;
                }
                if (!take(',')) {
                    return false;
                }
            }
            return false;
        }

        private boolean take(char c) {
            if (at >= length || text[at] != c) {
                return false;
            }
            at++;
            return true;
        }
    }

    /**
     * The terms of one clause or two, joined into classes of terms that are to be the same. Classes are joined instead
     * of terms copied, because a copied term can grow beyond all bounds while only its size is asked for.
     */
    private static final class Graph {
        private static final int NODES = 2 * MAX_SIZE;
        private static final int MAX_PAIRS = MAX_TERMS * NODES + 1;
        private final int[] symbols;
        private final int[] ends;
        private final int[] roots;
        private final int[] firsts;
        private final boolean[] finite;
        private final int[] ones;
        private final int[] others;
        private int length;
        private int waiting;

        Graph() {
            symbols = new int[NODES];
            ends = new int[NODES];
            roots = new int[NODES];
            firsts = new int[2 * MAX_VARIABLES];
            finite = new boolean[NODES];
            ones = new int[MAX_PAIRS];
            others = new int[MAX_PAIRS];
        }

        void load(Form form) {
            length = 0;
            Arrays.fill(firsts, -1);
            append(form, 0);
        }

        /** The variables are shifted so that those of a second clause are others than those of the first. */
        void append(Form form, int shift) {
            for (int at = 0; at < form.length && length < NODES; at++) {
                int symbol = form.symbols[at];
                roots[length] = length;
                if (Symbol.isVariable(symbol)) {
                    int variable = Math.min(Symbol.variable(symbol) + shift, firsts.length - 1);
                    if (firsts[variable] < 0) {
                        firsts[variable] = length;
                    }
                    roots[length] = firsts[variable];
                }
                symbols[length] = symbol;
                length++;
            }
        }

        void findEnds() {
            for (int at = length - 1; at >= 0; at--) {
                int next = at + 1;
                int terms = Symbol.terms(symbols[at]);
                for (int term = 0; term < terms && next < length; term++) {
                    next = ends[next];
                }
                ends[at] = next;
            }
        }

        int end(int at) {
            return at < 0 || at >= length ? length : ends[at];
        }

        boolean unify(int one, int other) {
            waiting = 0;
            join(one, other);
            for (int pair = 0; pair < MAX_PAIRS && waiting > 0; pair++) {
                waiting--;
                int a = findRoot(ones[waiting]);
                int b = findRoot(others[waiting]);
                if (a == b) {
                    continue;
                }
                if (Symbol.isVariable(symbols[a])) {
                    roots[a] = b;
                } else if (Symbol.isVariable(symbols[b])) {
                    roots[b] = a;
                } else if (symbols[a] != symbols[b]) {
                    return false;
                } else {
                    roots[a] = b;
                    joinTerms(a, b);
                }
            }
            return areAllFinite();
        }

        private void join(int one, int other) {
            if (waiting < MAX_PAIRS && one < length && other < length) {
                ones[waiting] = one;
                others[waiting] = other;
                waiting++;
            }
        }

        private void joinTerms(int one, int other) {
            int terms = Symbol.terms(symbols[one]);
            int a = one + 1;
            int b = other + 1;
            for (int term = 0; term < terms; term++) {
                join(a, b);
                a = end(a);
                b = end(b);
            }
        }

        private int findRoot(int node) {
            int root = node;
            for (int hop = 0; hop < NODES && roots[root] != root; hop++) {
                root = roots[root];
            }
            return root;
        }

        /** A class that is never found finite has a variable whose term would have that variable in it. */
        private boolean areAllFinite() {
            for (int at = 0; at < length; at++) {
                roots[at] = findRoot(at);
                finite[at] = false;
            }
            boolean changed = true;
            boolean all = false;
            for (int round = 0; round <= NODES && changed && !all; round++) {
                changed = false;
                all = true;
                for (int at = length - 1; at >= 0; at--) {
                    if (roots[at] == at && !finite[at]) {
                        finite[at] = areTermsFinite(at);
                        changed = changed || finite[at];
                        all = all && finite[at];
                    }
                }
            }
            return all;
        }

        private boolean areTermsFinite(int node) {
            int terms = Symbol.terms(symbols[node]);
            int at = node + 1;
            for (int term = 0; term < terms && at < length; term++) {
                if (!finite[roots[at]]) {
                    return false;
                }
                at = ends[at];
            }
            return true;
        }

        /** Puts the symbols there with the unifier; false when they become too great. */
        boolean copy(int from, int to, Form out) {
            for (int at = from; at < to && at < length; at++) {
                boolean fits = Symbol.isVariable(symbols[at]) ? copyTerm(roots[at], out) : out.put(symbols[at]);
                if (!fits) {
                    return false;
                }
            }
            return true;
        }

        /** Every round puts one symbol, and a form takes no more of them than the greatest size. */
        private boolean copyTerm(int root, Form out) {
            ones[0] = root;
            waiting = 1;
            for (int round = 0; round <= MAX_SIZE && waiting > 0; round++) {
                waiting--;
                int node = roots[ones[waiting]];
                int terms = Symbol.terms(symbols[node]);
                int symbol = Symbol.isVariable(symbols[node]) ? Symbol.ofVariable(node) : symbols[node];
                if (!out.put(symbol) || waiting + terms > MAX_PAIRS) {
                    return false;
                }
                int at = node + 1;
                for (int term = terms - 1; term >= 0 && at < length; term--) {
                    ones[waiting + term] = at;
                    at = ends[at];
                }
                waiting += terms;
            }
            return waiting == 0;
        }
    }

    /**
     * Works out the result of the rules 0 to 3. What a rule chooses is told by places in the graph, so that all
     * rules then go the same way.
     */
    private static final class Deduction {
        private static final int NOWHERE = -1;
        final Form result;
        private final Graph graph;
        private int one;
        private int other;
        private int firstLeftOut;
        private int secondLeftOut;
        private int place;
        private int filling;

        Deduction() {
            result = new Form();
            graph = new Graph();
        }

        int apply(int rule, Form first, int k, Form second, int l, int p) {
            boolean two = hasTwoParents(rule);
            graph.load(first);
            if (two) {
                graph.append(second, MAX_VARIABLES);
            }
            graph.findEnds();
            if (!choose(rule, first, k, second, l, p)) {
                return NO_FIT;
            }
            if (!graph.unify(one, other)) {
                return NO_UNIFIER;
            }
            result.clear();
            boolean fits = copyLiterals(first, 0) && (!two || copyLiterals(second, first.length));
            return fits && result.nameVariables() <= MAX_VARIABLES ? NO_FAULT : GREAT;
        }

        private boolean choose(int rule, Form first, int k, Form second, int l, int p) {
            firstLeftOut = first.start(k);
            secondLeftOut = NOWHERE;
            place = NOWHERE;
            filling = NOWHERE;
            switch (rule) {
                case RESOLUTION:
                    return chooseResolution(first, k, second, l);
                case FACTORING:
                    return chooseFactoring(first, k, l);
                case REFLECTION:
                    return chooseReflection(first, k);
                default:
                    return chooseRewriting(first, k, second, l, p);
            }
        }

        private boolean chooseResolution(Form first, int k, Form second, int l) {
            one = first.start(k);
            other = first.length + second.start(l);
            secondLeftOut = other;
            return first.negated[k] != second.negated[l];
        }

        private boolean chooseFactoring(Form form, int k, int l) {
            one = form.start(k);
            other = form.start(l);
            firstLeftOut = other;
            return k != l && form.negated[k] == form.negated[l];
        }

        private boolean chooseReflection(Form form, int k) {
            one = form.start(k) + 1;
            other = graph.end(one);
            return form.negated[k] && form.isEquation(k);
        }

        private boolean chooseRewriting(Form first, int k, Form second, int l, int p) {
            int left = first.start(k) + 1;
            int right = graph.end(left);
            one = p >= TURNED_ROUND ? right : left;
            filling = p >= TURNED_ROUND ? left : right;
            place = first.length + second.start(l) + 1 + placeOf(p);
            other = place;
            return !first.negated[k] && first.isEquation(k);
        }

        private boolean copyLiterals(Form form, int shift) {
            for (int literal = 0; literal < form.count; literal++) {
                int from = shift + form.start(literal);
                if (from != firstLeftOut && from != secondLeftOut) {
                    result.open(form.negated[literal]);
                    if (!copyAtom(from, shift + form.ends[literal]) || !result.close()) {
                        return false;
                    }
                }
            }
            return true;
        }

        private boolean copyAtom(int from, int to) {
            if (place < from || place >= to) {
                return graph.copy(from, to, result);
            }
            return graph.copy(from, place, result)
                    && graph.copy(filling, graph.end(filling), result)
                    && graph.copy(graph.end(place), to, result);
        }
    }

    /** Looks for a substitution that makes each literal of a general clause one of a special clause. */
    private static final class Matcher {
        private final int[] terms;
        private final int[] bound;
        private int many;

        Matcher() {
            terms = new int[MAX_VARIABLES];
            bound = new int[MAX_VARIABLES];
        }

        boolean canSpecialise(Form general, Form special) {
            Arrays.fill(terms, -1);
            many = 0;
            return matchFrom(general, 0, special);
        }

        /** Goes one deeper for every literal of the general clause. */
        private boolean matchFrom(Form general, int literal, Form special) {
            if (literal >= general.count || literal >= MAX_LITERALS) {
                return true;
            }
            int before = many;
            for (int partner = 0; partner < special.count; partner++) {
                if (matchLiteral(general, literal, special, partner) && matchFrom(general, literal + 1, special)) {
                    return true;
                }
                release(before);
            }
            return false;
        }

        private boolean matchLiteral(Form general, int literal, Form special, int partner) {
            if (general.negated[literal] != special.negated[partner]) {
                return false;
            }
            int at = special.start(partner);
            int end = special.ends[partner];
            for (int place = general.start(literal); place < general.ends[literal]; place++) {
                if (at >= end) {
                    return false;
                }
                int symbol = general.symbols[place];
                int next = at + 1;
                boolean same = symbol == special.symbols[at];
                if (Symbol.isVariable(symbol)) {
                    next = special.termEnd(at);
                    same = bind(Symbol.variable(symbol), special, at, next);
                }
                if (!same) {
                    return false;
                }
                at = next;
            }
            return at == end;
        }

        private boolean bind(int variable, Form special, int from, int to) {
            if (variable >= MAX_VARIABLES) {
                return false;
            }
            if (terms[variable] >= 0) {
                return special.hasSameSymbols(terms[variable], from, to - from);
            }
            if (many >= MAX_VARIABLES) {
                return false;
            }
            terms[variable] = from;
            bound[many] = variable;
            many++;
            return true;
        }

        /** Only the latest are looked at, because the search comes here after every try. */
        private void release(int before) {
            while (many > before) {
                many--;
                terms[bound[many]] = -1;
            }
        }
    }
}
