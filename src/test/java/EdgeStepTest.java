/** The edges of promise 4: of the reasons to refuse a step, the first that holds is told. */
final class EdgeStepTest {
    private static final int[] RESOLVE = Check.by(0, 0, 0, 1, 0, 0);

    public static void main(String[] args) {
        Check check = new Check();
        whenItIsRight(check);
        whenItIsNot(check);
        thirtyClauses(check);
        clauseNotThere(check);
        literalNotThere(check);
        ruleNotThere(check);
        placeNotThere(check);
        claimNotThere(check);
        claimUnread(check);
        ruleDoesNotFit(check);
        noUnifier(check);
        great(check);
        claimNotRight(check);
        check.end();
    }

    /** Each of the clauses 0 to 9 is there for one reason to refuse a step. */
    private static ProofDesk desk() {
        return Check.deskWith("p(X)|q", "~p(a)", "~q|a=b", "r(a)|r(b)|r(c)|p(a)", "~p(a)|r(d)|r(e)|r(f)|r(g)", "#",
                "p(b)|r(d)|r(e)|r(f)|r(g)", "c=d");
    }

    private static ProofDesk full() {
        ProofDesk desk = desk();
        while (desk.clauses() < 30) {
            Check.write(desk, "q");
            desk.given();
        }
        return desk;
    }

    private static void whenItIsRight(Check check) {
        check.sentence("when it is right, the clause is added: its number");
        ProofDesk desk = desk();
        check.step(desk, "", RESOLVE, "q");
        check.step(desk, "q", RESOLVE, "q");
        check.is("clauses", desk.clauses(), 10);
    }

    private static void whenItIsNot(Check check) {
        ProofDesk desk = Check.deskWith("p(X)|q", "~p(a)");
        check.refused(desk, "q|", RESOLVE, -1);
        check.refused(desk, "r", RESOLVE, -8);
        check.refused(desk, "", Check.by(0, 0, 0, 0, 0, 0), -5);
        check.refused(desk, "", Check.by(0, 0, 1, 1, 0, 0), -6);
        for (int clause = 0; clause < 2; clause++) {
            check.is("text", Check.text(desk, clause), clause == 0 ? "p(A)|q" : "~p(a)");
            check.is("depth", desk.depth(clause), 0);
            check.is("needs", desk.needs(clause, clause), true);
            check.is("needs no other", desk.needs(clause, 1 - clause), false);
        }
        check.is("no third one", desk.literals(2), -1);
        check.step(desk, "", RESOLVE, "q");
    }

    private static void thirtyClauses(Check check) {
        check.sentence("The first of these that holds: IllegalStateException when there are 30 clauses");
        ProofDesk desk = full();
        check.refused(desk, "", RESOLVE, -3);
        check.refused(desk, "q", RESOLVE, -3);
        check.refused(desk, "", Check.by(0, 30, 0, 1, 0, 0), -3);
        check.refused(desk, "", Check.by(5, 0, 0, 1, 0, 0), -3);
        check.refused(desk, "", Check.by(4, 0, 0, 0, 0, 0), -3);
        check.refused(desk, "q|", RESOLVE, -3);
        check.refused(desk, "p", RESOLVE, -3);
        check.refused(desk, "", Check.by(0, 0, 0, 0, 0, 0), -3);
        check.refused(desk, "", Check.by(0, 6, 0, 1, 0, 0), -3);
        check.refused(desk, "", Check.by(0, 3, 3, 4, 0, 0), -3);
        check.refused(desk, "r(a)", RESOLVE, -3);
        ProofDesk almost = desk();
        while (almost.clauses() < 29) {
            check.step(almost, "", RESOLVE, "q");
        }
        check.step(almost, "", RESOLVE, "q");
        check.refused(almost, "", RESOLVE, -3);
    }

    private static void clauseNotThere(Check check) {
        check.sentence("NoSuchElementException when a clause that is looked at is not there");
        ProofDesk desk = desk();
        for (int none : new int[] {Integer.MIN_VALUE, -1, 8, 29, 30, Integer.MAX_VALUE}) {
            check.refused(desk, "", Check.by(0, none, 0, 1, 0, 0), -4);
            check.refused(desk, "", Check.by(0, 0, 0, none, 0, 0), -4);
            check.refused(desk, "", Check.by(1, none, 0, 0, 1, 0), -4);
            check.refused(desk, "", Check.by(2, none, 0, 0, 0, 0), -4);
            check.refused(desk, "", Check.by(3, none, 0, 1, 0, 0), -4);
            check.refused(desk, "", Check.by(3, 7, 0, none, 0, 0), -4);
            check.refused(desk, "q", Check.by(4, none, 0, 0, 0, 0), -4);
        }
        check.refused(desk, "q|", Check.by(0, 8, 0, 1, 0, 0), -4);
        check.refused(desk, "p", Check.by(0, 0, 0, 8, 0, 0), -4);
        check.step(desk, "", Check.by(0, 0, 0, 1, 0, 0), "q");
        check.refused(desk, "", Check.by(0, 8, 0, 1, 0, 0), -6);
    }

    private static void literalNotThere(Check check) {
        check.sentence("a literal that is looked at is not there");
        ProofDesk desk = Check.deskWith("p", "~p", "~a=a", "a=a|q(a)", "#");
        for (int none : new int[] {Integer.MIN_VALUE, -1, 1, 6, 7, Integer.MAX_VALUE}) {
            check.refused(desk, "", Check.by(0, 0, none, 1, 0, 0), -4);
            check.refused(desk, "", Check.by(0, 0, 0, 1, none, 0), -4);
            check.refused(desk, "", Check.by(1, 0, none, 0, 0, 0), -4);
            check.refused(desk, "", Check.by(1, 0, 0, 0, none, 0), -4);
            check.refused(desk, "", Check.by(2, 2, none, 0, 0, 0), -4);
        }
        check.refused(desk, "", Check.by(3, 3, 2, 3, 1, 0), -4);
        check.refused(desk, "", Check.by(3, 3, 0, 3, 2, 0), -4);
        check.refused(desk, "", Check.by(3, 4, 0, 3, 1, 0), -4);
        check.refused(desk, "p|", Check.by(0, 0, 1, 1, 0, 0), -4);
        check.refused(desk, "p(a)", Check.by(0, 0, 0, 1, 1, 0), -4);
        check.refused(desk, "", Check.by(0, 0, 0, 0, 1, 0), -4);
    }

    private static void ruleNotThere(Check check) {
        check.sentence("a rule that is looked at is not there");
        ProofDesk desk = desk();
        for (int rule : new int[] {Integer.MIN_VALUE, -1, 5, Integer.MAX_VALUE}) {
            check.refused(desk, "", Check.by(rule, 0, 0, 1, 0, 0), -4);
            check.refused(desk, "q|", Check.by(rule, 0, 0, 1, 0, 0), -4);
            check.refused(desk, "p", Check.by(rule, 0, 0, 1, 0, 0), -4);
        }
    }

    private static void placeNotThere(Check check) {
        check.sentence("(for rule 3 a place, too, or the term there is a variable)");
        ProofDesk desk = Check.deskWith("a=b", "p(a,X)", "~a=b", "q");
        check.step(desk, "", Check.by(3, 0, 0, 1, 0, 0), "p(b,A)");
        for (int p : new int[] {-1, 1, 2, 99, 101, 102}) {
            check.refused(desk, "", Check.by(3, 0, 0, 1, 0, p), -4);
            check.refused(desk, "p(", Check.by(3, 0, 0, 1, 0, p), -4);
            check.refused(desk, "p", Check.by(3, 0, 0, 1, 0, p), -4);
            check.refused(desk, "", Check.by(3, 2, 0, 1, 0, p), -4);
            check.refused(desk, "", Check.by(3, 3, 0, 1, 0, p), -4);
        }
        check.refused(desk, "", Check.by(3, 2, 0, 1, 0, 0), -5);
    }

    private static void claimNotThere(Check check) {
        check.sentence("(for 4 a claim)");
        ProofDesk desk = desk();
        check.refused(desk, "", Check.by(4, 0, 0, 0, 0, 0), -4);
        check.refused(desk, "", Check.by(4, 5, 0, 0, 0, 0), -4);
        check.step(desk, "q|p(b)", Check.by(4, 0, 0, 0, 0, 0), "q|p(b)");
    }

    private static void claimUnread(Check check) {
        check.sentence("IllegalArgumentException when the claim can't be read (see fault)");
        ProofDesk desk = desk();
        int[][] steps = {RESOLVE, Check.by(0, 0, 0, 0, 0, 0), Check.by(0, 6, 0, 1, 0, 0), Check.by(0, 3, 3, 4, 0, 0),
            Check.by(1, 0, 0, 0, 0, 0), Check.by(2, 0, 0, 0, 0, 0), Check.by(3, 0, 0, 1, 0, 0),
            Check.by(4, 0, 0, 0, 0, 0), Check.by(4, 5, 0, 0, 0, 0)};
        for (int[] step : steps) {
            check.refused(desk, "q|", step, -1);
            check.refused(desk, " ", step, -1);
            check.refused(desk, "q|p", step, -2);
            check.refused(desk, "s|s(a)", step, -2);
        }
    }

    private static void ruleDoesNotFit(Check check) {
        check.sentence("UnsupportedOperationException when the rule does not fit these literals");
        ProofDesk desk = desk();
        for (String claim : new String[] {"", "q", "#"}) {
            check.refused(desk, claim, Check.by(0, 0, 0, 0, 1, 0), -5);
            check.refused(desk, claim, Check.by(0, 3, 3, 6, 0, 0), -5);
            check.refused(desk, claim, Check.by(1, 0, 0, 0, 0, 0), -5);
            check.refused(desk, claim, Check.by(1, 4, 0, 0, 1, 0), -5);
            check.refused(desk, claim, Check.by(2, 2, 0, 0, 0, 0), -5);
            check.refused(desk, claim, Check.by(2, 7, 0, 0, 0, 0), -5);
            check.refused(desk, claim, Check.by(3, 0, 0, 1, 0, 0), -5);
        }
    }

    private static void noUnifier(Check check) {
        check.sentence("there is no unifier");
        ProofDesk desk = desk();
        for (String claim : new String[] {"", "q", "#"}) {
            check.refused(desk, claim, Check.by(0, 0, 1, 1, 0, 0), -6);
            check.refused(desk, claim, Check.by(0, 6, 0, 4, 0, 0), -6);
            check.refused(desk, claim, Check.by(1, 3, 0, 0, 1, 0), -6);
            check.refused(desk, claim, Check.by(3, 7, 0, 1, 0, 0), -6);
        }
    }

    private static void great(Check check) {
        check.sentence("the result is GREAT");
        ProofDesk desk = desk();
        check.refused(desk, "", Check.by(0, 3, 3, 4, 0, 0), -7);
        check.refused(desk, "q", Check.by(0, 3, 3, 4, 0, 0), -7);
        check.refused(desk, "r(a)|r(b)|r(c)|r(d)|r(e)|r(f)", Check.by(0, 3, 3, 4, 0, 0), -7);
    }

    private static void claimNotRight(Check check) {
        check.sentence("or the claim is not right");
        ProofDesk desk = desk();
        check.refused(desk, "~q", RESOLVE, -8);
        check.refused(desk, "#", RESOLVE, -8);
        check.refused(desk, "p(a)", Check.by(4, 0, 0, 0, 0, 0), -8);
        check.step(desk, "q", RESOLVE, "q");
        check.step(desk, "p(a)|q", Check.by(4, 0, 0, 0, 0, 0), "p(a)|q");
    }
}
