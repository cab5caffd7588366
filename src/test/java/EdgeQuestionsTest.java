/** The edges of the promises 6 to 13: what can be asked about clauses. */
final class EdgeQuestionsTest {
    public static void main(String[] args) {
        Check check = new Check();
        howMany(check);
        noSuchClause(check);
        noSuchClauseWhenFull(check);
        literals(check);
        sizes(check);
        characters(check);
        longText(check);
        deepText(check);
        depths(check);
        needsOfGivens(check);
        needsOfNoGiven(check);
        needsFarAway(check);
        refuted(check);
        trivialByNegation(check);
        trivialBySides(check);
        questionsChangeNothing(check);
        check.end();
    }

    private static ProofDesk full() {
        ProofDesk desk = new ProofDesk();
        for (int number = 0; number < 30; number++) {
            Check.write(desk, number == 29 ? "a=a" : "#");
            desk.given();
        }
        return desk;
    }

    private static void howMany(Check check) {
        check.sentence("How many clauses there are");
        ProofDesk desk = new ProofDesk();
        check.is("none", desk.clauses(), 0);
        check.given(desk, "p", 0);
        check.is("one", desk.clauses(), 1);
        check.given(desk, "p|", Check.ARGUMENT, -1);
        check.is("still one", desk.clauses(), 1);
        check.step(desk, "p|q", Check.by(4, 0, 0, 0, 0, 0), "p|q");
        check.is("two", desk.clauses(), 2);
        ProofDesk full = full();
        check.is("thirty", full.clauses(), 30);
        check.given(full, "p", Check.STATE, -3);
        check.is("still thirty", full.clauses(), 30);
    }

    private static void noSuchClause(Check check) {
        check.sentence("-1 (or false) when there is none");
        noneAt(check, new ProofDesk(), 0);
        noneAt(check, Check.deskWith("a=a"), 1);
        noneAt(check, Check.deskWith("a=a", "#", "p|~p"), 3);
        check.is("there is one", Check.deskWith("a=a").trivial(0), true);
    }

    private static void noneAt(Check check, ProofDesk desk, int first) {
        for (int none : new int[] {first, first + 1, 29, 30, 31, 32, 64, -1, -30, Integer.MIN_VALUE, Integer.MAX_VALUE}) {
            check.is("literals of " + none, desk.literals(none), -1);
            check.is("size of " + none, desk.size(none), -1);
            check.is("letter of " + none, desk.letter(none, 0), -1);
            check.is("depth of " + none, desk.depth(none), -1);
            check.is("needs of " + none, desk.needs(none, 0), false);
            check.is("needs of itself " + none, desk.needs(none, none), false);
            check.is("trivial " + none, desk.trivial(none), false);
        }
    }

    private static void noSuchClauseWhenFull(Check check) {
        ProofDesk desk = full();
        check.is("literals", desk.literals(29), 1);
        check.is("size", desk.size(29), 3);
        check.is("letter", desk.letter(29, 2), 'a');
        check.is("depth", desk.depth(29), 0);
        check.is("needs", desk.needs(29, 29), true);
        check.is("trivial", desk.trivial(29), true);
        for (int none : new int[] {30, 31, -1}) {
            check.is("literals of " + none, desk.literals(none), -1);
            check.is("size of " + none, desk.size(none), -1);
            check.is("letter of " + none, desk.letter(none, 0), -1);
            check.is("depth of " + none, desk.depth(none), -1);
            check.is("needs of " + none, desk.needs(none, 0), false);
            check.is("need of " + none, desk.needs(29, none), false);
            check.is("trivial " + none, desk.trivial(none), false);
        }
    }

    private static void literals(Check check) {
        check.sentence("How many literals a clause has");
        ProofDesk desk = Check.deskWith("#", "p", "p|q|r|s|t|u", "p|~p|p", "v(X)|v(Y)");
        int[] due = {0, 1, 6, 2, 2};
        for (int clause = 0; clause < due.length; clause++) {
            check.is("literals of " + clause, desk.literals(clause), due[clause]);
        }
        check.step(desk, "", Check.by(1, 4, 0, 0, 1, 0), "v(A)");
        check.is("of a result", desk.literals(5), 1);
    }

    private static void sizes(Check check) {
        check.sentence("The SIZE of a clause");
        ProofDesk desk = Check.deskWith("#", "p", "~p", "a=b", "~f(a)=X|p", "q(X)|~q(Y)|q(X)");
        int[] due = {0, 1, 1, 3, 5, 4};
        for (int clause = 0; clause < due.length; clause++) {
            check.is("size of " + clause, desk.size(clause), due[clause]);
        }
        check.step(desk, "", Check.by(2, 4, 0, 0, 0, 0), "p");
        check.is("of a result", desk.size(6), 1);
    }

    private static void characters(Check check) {
        check.sentence("The code of character i of the text of a clause; -1 when there is none");
        String[] texts = {"#", "p", "~p", "~p|a=b|q(A,f(B),a)"};
        ProofDesk desk = Check.deskWith(texts);
        for (int clause = 0; clause < texts.length; clause++) {
            int length = texts[clause].length();
            for (int at = 0; at < length; at++) {
                check.is("letter " + clause + " " + at, desk.letter(clause, at), texts[clause].charAt(at));
            }
            for (int none : new int[] {-1, length, length + 1, 60, 200, Integer.MIN_VALUE, Integer.MAX_VALUE}) {
                check.is("letter " + clause + " " + none, desk.letter(clause, none), -1);
            }
        }
        check.is("neither", desk.letter(-1, -1), -1);
        check.is("neither", desk.letter(4, 99), -1);
    }

    /** A clause of size 40 can have a text of more than 100 characters. */
    private static void longText(Check check) {
        ProofDesk desk = Check.deskWith("~X=f(f(f(f(f(f(f(f(f(f(f(f(a))))))))))))|q(X,X,X)");
        String deep = "f(".repeat(12) + "a" + ")".repeat(12);
        String text = "q(" + deep + "," + deep + "," + deep + ")";
        check.step(desk, "", Check.by(2, 0, 0, 0, 0, 0), text);
        check.is("size", desk.size(1), 40);
        check.is("the last character", desk.letter(1, text.length() - 1), ')');
        check.is("none behind it", desk.letter(1, text.length()), -1);
    }

    /** The deepest term that a clause can have. */
    private static void deepText(Check check) {
        ProofDesk desk = Check.deskWith("f(f(f(f(f(f(f(f(f(f(f(f(f(b)))))))))))))=b", "p(b)",
                "f(f(f(f(f(f(f(f(f(f(f(f(b))))))))))))=b");
        check.is("step", Check.step(desk, Check.by(3, 0, 0, 1, 0, 100)), 3);
        check.is("step", Check.step(desk, Check.by(3, 0, 0, 3, 0, 113)), 4);
        check.step(desk, "", Check.by(3, 2, 0, 4, 0, 126), "p(" + "f(".repeat(38) + "b" + ")".repeat(39));
        check.is("size", desk.size(5), 40);
        check.is("the last character", desk.letter(5, 117), ')');
        check.is("none behind it", desk.letter(5, 118), -1);
        check.refused(desk, "", Check.by(3, 0, 0, 5, 0, 138), -7);
    }

    private static void depths(Check check) {
        check.sentence("The DEPTH of a clause");
        ProofDesk desk = Check.deskWith("p(X)", "~p(a)");
        check.step(desk, "p(a)", Check.by(4, 0, 0, 0, 0, 0), "p(a)");
        check.step(desk, "", Check.by(0, 2, 0, 1, 0, 0), "#");
        int[] due = {0, 0, 1, 2};
        for (int clause = 0; clause < due.length; clause++) {
            check.is("depth of " + clause, desk.depth(clause), due[clause]);
        }
    }

    private static void needsOfGivens(Check check) {
        check.sentence("Whether a clause needs a given one");
        ProofDesk desk = Check.deskWith("p", "q", "~p");
        check.step(desk, "", Check.by(0, 0, 0, 2, 0, 0), "#");
        boolean[] due = {true, false, true, false};
        for (int need = 0; need < due.length; need++) {
            check.is("needs 3 " + need, desk.needs(3, need), due[need]);
        }
        check.is("itself", desk.needs(1, 1), true);
        check.is("another", desk.needs(1, 0), false);
    }

    private static void needsOfNoGiven(Check check) {
        check.sentence("false when need is not the number of a given one");
        ProofDesk desk = Check.deskWith("p");
        check.step(desk, "p", Check.by(4, 0, 0, 0, 0, 0), "p");
        check.step(desk, "p", Check.by(4, 1, 0, 0, 0, 0), "p");
        check.is("the given one", desk.needs(2, 0), true);
        check.is("the parent", desk.needs(2, 1), false);
        check.is("itself", desk.needs(2, 2), false);
        check.is("none", desk.needs(2, 3), false);
        check.given(desk, "q", 3);
        check.is("one given later", desk.needs(2, 3), false);
        check.is("that one itself", desk.needs(3, 3), true);
    }

    /** No number beyond the last one, nor below 0, stands for a given one. */
    private static void needsFarAway(Check check) {
        ProofDesk desk = Check.deskWith("p", "q");
        for (int clause = 0; clause < 2; clause++) {
            for (int far : new int[] {2, 29, 30, 31, 32, 33, 63, 64, 65, 128, 256, 257, -1, -2, -31, -32, -63, -64,
                Integer.MAX_VALUE, Integer.MIN_VALUE, Integer.MIN_VALUE + 1}) {
                check.is("needs " + clause + " " + far, desk.needs(clause, far), false);
            }
        }
        ProofDesk full = full();
        for (int need = -3; need < 70; need++) {
            check.is("needs of the last " + need, full.needs(29, need), need == 29);
        }
    }

    private static void refuted(Check check) {
        check.sentence("The least clause without literals; -1 when there is none");
        check.is("of none", new ProofDesk().refuted(), -1);
        check.is("of some", Check.deskWith("p", "q|~q").refuted(), -1);
        check.is("the first", Check.deskWith("#", "p").refuted(), 0);
        check.is("the last", Check.deskWith("p", "q", "#").refuted(), 2);
        check.is("the least", Check.deskWith("p", "#", "q", "#").refuted(), 1);
        ProofDesk desk = Check.deskWith("p", "~p");
        check.step(desk, "", Check.by(0, 0, 0, 1, 0, 0), "#");
        check.is("by a step", desk.refuted(), 2);
        check.given(desk, "#", 3);
        check.is("not the later one", desk.refuted(), 2);
        ProofDesk late = new ProofDesk();
        for (int number = 0; number < 30; number++) {
            check.is("none yet", late.refuted(), -1);
            check.given(late, number == 29 ? "#" : "p", number);
        }
        check.is("the thirtieth", late.refuted(), 29);
    }

    private static void trivialByNegation(Check check) {
        check.sentence("it has an atom and its negation");
        for (String text : new String[] {"p|~p", "~p|p", "p|q|r|s|t|~p", "~p(X,f(a))|q|p(X,f(a))", "a=b|~a=b",
            "~X=Y|X=Y", "q|p(X)|p(Y)|~p(Y)"}) {
            check.is("trivial " + text, Check.deskWith(text).trivial(0), true);
        }
        for (String text : new String[] {"#", "p", "~p", "p|q", "p|~q", "~p|~q", "p(X)|~p(Y)", "p(a)|~p(X)",
            "p(a,b)|~p(b,a)", "a=b|~b=a", "X=Y|~Y=X", "p(X)|~p(f(X))"}) {
            check.is("trivial " + text, Check.deskWith(text).trivial(0), false);
        }
    }

    private static void trivialBySides(Check check) {
        check.sentence("or an equation with two same sides");
        for (String text : new String[] {"X=X", "a=a", "f(X,a)=f(X,a)", "p|q|r|s|t|X=X", "~p|a=a", "a=b|b=b"}) {
            check.is("trivial " + text, Check.deskWith(text).trivial(0), true);
        }
        for (String text : new String[] {"X=Y", "a=b", "~X=X", "~a=a", "f(X)=f(Y)", "f(a)=a", "a=f(a)", "p(X,X)",
            "f(a,b)=f(b,a)", "p|~f(X)=f(X)"}) {
            check.is("trivial " + text, Check.deskWith(text).trivial(0), false);
        }
    }

    private static void questionsChangeNothing(Check check) {
        check.sentence("Nothing is promised beyond the answers and state changes described above");
        ProofDesk desk = Check.deskWith("p(X)|q", "~p(a)");
        Check.write(desk, "q");
        noneAt(check, desk, 2);
        check.is("draft", desk.draft(), 1);
        check.is("step with the claim", Check.step(desk, Check.by(0, 0, 0, 1, 0, 0)), 2);
    }
}
