import java.util.Arrays;
import java.util.Map;
import java.util.TreeMap;

/**
 * Plays the same runs of calls on the program and on the model, and compares all that can be asked for. Long runs go
 * beyond the 512 calls of the document: this program does not count its calls, and so more is compared in each run.
 */
final class ModelTest {
    private static final int RUNS = 1500;
    private static final String[] WILD = {"~", "|", "=", "(", ")", ",", "#", " ", "A", "a", "p", "!", "x", "f"};

    private final Check check = new Check();
    private final Map<String, Integer> seen = new TreeMap<>();
    private long seed;
    private ProofDesk desk;
    private Model model;
    private int greatness;
    private int names;
    private boolean bushy;

    public static void main(String[] args) {
        ModelTest test = new ModelTest();
        for (int run = 1; run <= RUNS; run++) {
            test.play(run);
        }
        test.everythingWasSeen();
        test.check.end();
    }

    /** A test of answers that never come would test nothing. */
    private void everythingWasSeen() {
        for (int fault = 0; fault >= -8; fault--) {
            boolean forGiven = fault >= -3;
            boolean forStep = fault != 0;
            check.is("given with fault " + fault + " seen", !forGiven || seen.containsKey("given " + fault), true);
            check.is("step with fault " + fault + " seen", !forStep || seen.containsKey("step " + fault), true);
        }
        for (int rule = 0; rule <= 4; rule++) {
            for (int fault : new int[] {0, -8}) {
                check.is("rule " + rule + " with fault " + fault + " seen",
                        seen.containsKey("rule " + rule + " " + fault), true);
            }
        }
        check.is("trivial seen", seen.containsKey("trivial"), true);
        check.is("refuted seen", seen.containsKey("refuted"), true);
    }

    private int below(int bound) {
        seed = seed * 6364136223846793005L + 1442695040888963407L;
        return (int) Math.floorMod(seed >>> 33, (long) bound);
    }

    private void play(int run) {
        seed = run * 977L;
        below(2);
        desk = new ProofDesk();
        model = new Model();
        greatness = 1 + below(5);
        names = 1 + below(5);
        bushy = below(3) == 0;
        int starts = 2 + below(5);
        for (int given = 0; given < starts; given++) {
            give(clause());
        }
        for (int turn = 0; turn < 25; turn++) {
            int what = below(10);
            if (what == 0) {
                give(clause());
            } else if (what == 1) {
                give(spoilt(clause()));
            } else {
                tryStep();
            }
        }
        if (below(10) == 0) {
            fill();
        }
        compareAll("run " + run);
    }

    private void fill() {
        while (model.entries.size() < 30) {
            give("#");
        }
        give("#");
        give("##");
        give("");
        write("#");
        step(new int[] {4, 0, 0, 0, 0, 0});
        step(new int[] {9, 0, 0, 0, 0, 0});
    }

    // ---- making texts ----

    private String term(int deep) {
        int kind = deep <= 0 ? below(4) : bushy ? 3 + below(5) : below(8);
        switch (kind) {
            case 0:
            case 1:
                return "" + (char) ('A' + below(names));
            case 2:
                return "a";
            case 3:
                return below(8) == 0 ? "" + (char) ('X' + below(3)) : "b";
            case 4:
            case 5:
                return "f(" + term(deep - 1) + ")";
            case 6:
                return "g(" + term(deep - 1) + "," + term(deep - 1) + ")";
            default:
                return "h(" + term(deep - 1) + "," + term(deep - 1) + "," + term(deep - 1) + ")";
        }
    }

    private String literal() {
        String sign = below(2) == 0 ? "~" : "";
        int deep = below(greatness);
        switch (below(7)) {
            case 0:
            case 1:
                return sign + "p(" + term(deep) + ")";
            case 2:
                return sign + "q(" + term(deep) + "," + term(deep) + ")";
            case 3:
                return sign + "r";
            case 4:
                return sign + "s(" + term(deep) + "," + term(deep) + "," + term(deep) + ")";
            default:
                return sign + term(deep) + "=" + term(deep);
        }
    }

    private String clause() {
        int many = 1 + below(below(6) == 0 ? 8 : bushy ? 5 : 3);
        StringBuilder out = new StringBuilder(literal());
        for (int literal = 1; literal < many; literal++) {
            String more = literal();
            if (out.length() + more.length() < 60) {
                out.append('|').append(more);
            }
        }
        return out.toString();
    }

    private String spoilt(String text) {
        int at = below(text.length());
        String wild = WILD[below(WILD.length)];
        switch (below(3)) {
            case 0:
                return text.substring(0, at) + text.substring(at + 1);
            case 1:
                return text.substring(0, at) + wild + text.substring(at + 1);
            default:
                return text.substring(0, at) + wild + text.substring(at);
        }
    }

    // ---- making steps ----

    private int number(int bound) {
        return below(25) == 0 ? below(bound + 3) - 1 : below(Math.max(bound, 1));
    }

    /** Late clauses are taken more often, because what is great comes from what has grown. */
    private int clauseNumber(int many) {
        return below(2) == 0 ? number(many) : many - 1 - below(Math.max(Math.min(many, 5), 1));
    }

    private int[] anyStep() {
        int many = model.entries.size();
        int rule = below(40) == 0 ? below(9) - 2 : below(5);
        int i = clauseNumber(many);
        int j = clauseNumber(many);
        int k = number(Math.max(model.literals(i), 0));
        int l = number(Math.max(model.literals(rule == 1 ? i : j), 0));
        int p = below(20) == 0 ? below(300) - 50 : below(6) + (below(2) == 0 ? 0 : 100);
        return new int[] {rule, i, k, j, l, p};
    }

    private void tryStep() {
        int[] step = anyStep();
        int aim = bushy && below(3) == 0 ? -7 : 0;
        for (int more = below(aim == 0 ? 30 : 90); more > 0 && codeOf(step) != aim; more--) {
            step = anyStep();
        }
        write(claimFor(step));
        step(step);
    }

    private int codeOf(int[] step) {
        try {
            model.made(step, step[0] == 4 ? "r" : "");
            return 0;
        } catch (Model.Fault f) {
            return f.code;
        }
    }

    private String claimFor(int[] step) {
        int kind = below(6);
        if (step[0] == 4 && kind != 0) {
            return specialClaim(step[1], kind);
        }
        if (kind < 3) {
            return "";
        }
        if (kind == 3) {
            return clause();
        }
        try {
            String right = renamed(Model.text(model.made(step, "").literals()));
            return kind == 4 ? right : spoilt(right);
        } catch (Model.Fault f) {
            return kind == 4 ? "" : spoilt(clause());
        }
    }

    private String renamed(String text) {
        StringBuilder out = new StringBuilder();
        int turn = below(26);
        for (char c : text.toCharArray()) {
            out.append(Character.isUpperCase(c) ? (char) ('A' + (c - 'A' + turn) % 26) : c);
        }
        return out.toString();
    }

    /** Puts terms for the variables of a clause, turns its literals round, and may add or spoil something. */
    private String specialClaim(int clause, int kind) {
        String text = model.text(clause);
        if (text.isEmpty() || text.equals("#")) {
            return below(2) == 0 ? "#" : literal();
        }
        for (char c = 'A'; c <= 'Z'; c++) {
            if (text.indexOf(c) >= 0) {
                text = text.replace("" + c, term(below(2)).replaceAll("([A-Z])", "<$1>").toLowerCase());
            }
        }
        text = text.replaceAll("<(.)>", "<$1");
        StringBuilder out = new StringBuilder();
        for (int at = 0; at < text.length(); at++) {
            boolean mark = text.charAt(at) == '<' && at + 1 < text.length();
            out.append(mark ? Character.toUpperCase(text.charAt(++at)) : text.charAt(at));
        }
        String[] pieces = out.toString().split("\\|");
        int turn = below(pieces.length);
        StringBuilder turned = new StringBuilder(kind == 1 ? literal() : pieces[turn]);
        for (int piece = kind == 1 ? 0 : 1; piece < pieces.length; piece++) {
            turned.append('|').append(pieces[(turn + piece) % pieces.length]);
        }
        return kind == 2 ? spoilt(turned.toString()) : turned.toString();
    }

    // ---- calls on both ----

    private void write(String text) {
        for (char c : text.toCharArray()) {
            check.is("write " + c, desk.write(c), model.write(c));
        }
        check.is("draft", desk.draft(), model.draft.length());
    }

    private void give(String text) {
        write(text);
        check.is("given " + text + " after " + Arrays.toString(texts()), Check.given(desk), model.given());
        check.is("fault of given " + text, desk.fault(), model.fault);
        seen.merge("given " + model.fault, 1, Integer::sum);
        compareLast("given " + text);
    }

    private void step(int[] step) {
        String name = "step " + Arrays.toString(step) + " with '" + model.draft + "' after " + Arrays.toString(texts());
        check.is(name, Check.step(desk, step), model.step(step));
        check.is("fault of " + name, desk.fault(), model.fault);
        seen.merge("step " + model.fault, 1, Integer::sum);
        seen.merge("rule " + step[0] + " " + model.fault, 1, Integer::sum);
        compareLast(name);
    }

    private String[] texts() {
        String[] all = new String[model.entries.size()];
        for (int clause = 0; clause < all.length; clause++) {
            all[clause] = model.text(clause);
        }
        return all;
    }

    // ---- questions to both ----

    private void compareLast(String name) {
        check.is(name + ": draft", desk.draft(), model.draft.length());
        check.is(name + ": clauses", desk.clauses(), model.entries.size());
        check.is(name + ": text", Check.text(desk, desk.clauses() - 1), model.text(model.entries.size() - 1));
    }

    private void compareAll(String name) {
        int many = model.entries.size();
        check.is(name + ": refuted", desk.refuted(), model.refuted());
        if (model.refuted() >= 0) {
            seen.merge("refuted", 1, Integer::sum);
        }
        for (int clause = -1; clause <= many; clause++) {
            String what = name + " clause " + clause;
            check.is(what + ": text", Check.text(desk, clause), model.text(clause));
            check.is(what + ": literals", desk.literals(clause), model.literals(clause));
            check.is(what + ": size", desk.size(clause), model.size(clause));
            check.is(what + ": depth", desk.depth(clause), model.depth(clause));
            check.is(what + ": trivial", desk.trivial(clause), model.trivial(clause));
            if (model.trivial(clause)) {
                seen.merge("trivial", 1, Integer::sum);
            }
            for (int need = -1; need <= many; need++) {
                check.is(what + ": needs " + need, desk.needs(clause, need), model.needs(clause, need));
            }
        }
    }
}
