/** The edges that the document names for the numbers, depths and needs of clauses. */
final class EdgeClausesTest {
    private static final int[] SPECIALISE = Check.by(4, 0, 0, 0, 0, 0);

    public static void main(String[] args) {
        Check check = new Check();
        numbersOfGivens(check);
        numbersOfSteps(check);
        lastByStep(check);
        depthOfGivens(check);
        depthOfSteps(check);
        greatestDepth(check);
        needsOfGivens(check);
        needsOfSteps(check);
        allNeeds(check);
        check.end();
    }

    private static void numbersOfGivens(Check check) {
        check.sentence("CLAUSES have numbers 0, 1, .., at most 30");
        ProofDesk desk = new ProofDesk();
        for (int number = 0; number < 30; number++) {
            check.is("clauses", desk.clauses(), number);
            check.given(desk, "p(X)", number);
        }
        check.given(desk, "p(X)", Check.STATE, -3);
        check.refused(desk, "p(X)", SPECIALISE, -3);
        check.is("clauses", desk.clauses(), 30);
    }

    private static void numbersOfSteps(Check check) {
        ProofDesk desk = Check.deskWith("p(X)");
        for (int number = 1; number < 30; number++) {
            Check.write(desk, "p(a)");
            check.is("step", Check.step(desk, SPECIALISE), number);
        }
        check.refused(desk, "p(a)", SPECIALISE, -3);
        check.given(desk, "p(a)", Check.STATE, -3);
        check.is("the last text", Check.text(desk, 29), "p(a)");
    }

    /** A refused call uses up no number, neither in between nor for the last one. */
    private static void lastByStep(Check check) {
        ProofDesk desk = Check.deskWith("p(X)");
        for (int number = 1; number < 29; number++) {
            check.given(desk, "p(", Check.ARGUMENT, -1);
            check.given(desk, "q", number);
        }
        check.refused(desk, "q", SPECIALISE, -8);
        check.step(desk, "p(b)", SPECIALISE, "p(b)");
        check.is("clauses", desk.clauses(), 30);
    }

    private static void depthOfGivens(Check check) {
        check.sentence("and has a DEPTH: 0");
        ProofDesk desk = Check.deskWith("#", "p");
        check.step(desk, "p", Check.by(4, 1, 0, 0, 0, 0), "p");
        check.given(desk, "p", 3);
        int[] due = {0, 0, 1, 0};
        for (int clause = 0; clause < 4; clause++) {
            check.is("depth of " + clause, desk.depth(clause), due[clause]);
        }
    }

    private static void depthOfSteps(Check check) {
        check.sentence("or one more than that of the deepest of its parents");
        ProofDesk desk = Check.deskWith("p|q|~p", "a=a");
        check.step(desk, "", Check.by(0, 0, 0, 0, 2, 0), "q|~p|p");
        check.is("one twice", desk.depth(2), 1);
        check.step(desk, "", Check.by(0, 2, 1, 0, 0, 0), "q|p|~p");
        check.is("the first parent is deeper", desk.depth(3), 2);
        check.step(desk, "", Check.by(0, 0, 0, 3, 2, 0), "q|~p|p");
        check.is("the second parent is deeper", desk.depth(4), 3);
        check.step(desk, "", Check.by(3, 1, 0, 1, 0, 0), "a=a");
        check.is("rewriting of one twice", desk.depth(5), 1);
        check.step(desk, "", Check.by(3, 1, 0, 5, 0, 0), "a=a");
        check.is("rewriting, the second parent is deeper", desk.depth(6), 2);
        check.step(desk, "", Check.by(3, 6, 0, 1, 0, 1), "a=a");
        check.is("rewriting, the first parent is deeper", desk.depth(7), 3);
        check.step(desk, "", Check.by(3, 7, 0, 7, 0, 1), "a=a");
        check.is("rewriting of a deep one twice", desk.depth(8), 4);
        oneParentDepths(check);
    }

    /** The clause j of a rule with one parent is no parent, however deep it is. */
    private static void oneParentDepths(Check check) {
        ProofDesk desk = Check.deskWith("p(X)|p(Y)|~X=Y");
        check.step(desk, "", Check.by(2, 0, 2, 0, 0, 0), "p(A)");
        check.step(desk, "p(a)", Check.by(4, 1, 0, 0, 0, 0), "p(a)");
        check.is("reflection", desk.depth(1), 1);
        check.is("specialising", desk.depth(2), 2);
        check.step(desk, "", Check.by(1, 0, 0, 2, 1, 0), "p(A)|~A=A");
        check.is("factoring beside a deeper clause", desk.depth(3), 1);
        check.step(desk, "", Check.by(2, 0, 2, 2, 0, 0), "p(A)");
        check.is("reflection beside a deeper clause", desk.depth(4), 1);
        check.step(desk, "p(a)|p(b)|~a=b", Check.by(4, 0, 0, 2, 0, 0), "p(a)|p(b)|~a=b");
        check.is("specialising beside a deeper clause", desk.depth(5), 1);
    }

    private static void greatestDepth(Check check) {
        ProofDesk desk = Check.deskWith("p(X)");
        for (int clause = 1; clause < 30; clause++) {
            check.step(desk, "p(X)", Check.by(4, clause - 1, 0, 0, 0, 0), "p(A)");
        }
        check.is("depth of the last", desk.depth(29), 29);
        check.is("depth of the one before", desk.depth(28), 28);
    }

    private static void needsOfGivens(Check check) {
        check.sentence("its NEEDS are the given clauses that it was made from (it itself, when it was given)");
        ProofDesk desk = Check.deskWith("p", "p", "#");
        for (int clause = 0; clause < 3; clause++) {
            for (int need = 0; need < 3; need++) {
                check.is("needs " + clause + " " + need, desk.needs(clause, need), clause == need);
            }
        }
    }

    private static void needsOfSteps(Check check) {
        ProofDesk desk = Check.deskWith("p|q", "~p", "~q", "a=b");
        check.step(desk, "", Check.by(0, 0, 0, 1, 0, 0), "q");
        check.step(desk, "", Check.by(0, 4, 0, 2, 0, 0), "#");
        check.step(desk, "r(a)", Check.by(4, 5, 3, 3, 3, 3), "r(a)");
        check.step(desk, "", Check.by(3, 3, 0, 6, 0, 0), "r(b)");
        check.step(desk, "", Check.by(3, 3, 0, 3, 0, 0), "b=b");
        String[] due = {"0", "1", "2", "3", "01", "012", "012", "0123", "3"};
        for (int clause = 0; clause < due.length; clause++) {
            for (int need = 0; need < due.length; need++) {
                check.is("needs " + clause + " " + need, desk.needs(clause, need), due[clause].indexOf('0' + need) >= 0);
            }
        }
    }

    /** The last step stands on as many given clauses as there can be behind one. */
    private static void allNeeds(Check check) {
        ProofDesk desk = Check.deskWith("p|q|r|s|t", "~p", "~q", "~r", "~s", "~t");
        for (int literal = 0; literal < 5; literal++) {
            int from = literal == 0 ? 0 : 5 + literal;
            check.is("step", Check.step(desk, Check.by(0, from, 0, 1 + literal, 0, 0)), 6 + literal);
        }
        check.is("text", Check.text(desk, 10), "#");
        for (int need = 0; need < 12; need++) {
            check.is("of all: " + need, desk.needs(10, need), need < 6);
        }
    }
}
