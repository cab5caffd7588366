/** Promise 4: of several faults the first in the document's order is told, and the draft is always taken. */
final class Promise04StepOrderTest {
    public static void main(String[] args) {
        Check check = new Check();
        noRoomComesFirst(check);
        thenWhatIsNotThere(check);
        thenTheClaim(check);
        thenTheRule(check);
        onlyRightStepsAdd(check);
        check.end();
    }

    private static ProofDesk full() {
        ProofDesk desk = Check.deskWith("p(X)", "~p(a)");
        for (int more = 2; more < 30; more++) {
            Check.write(desk, "q");
            desk.given();
        }
        return desk;
    }

    private static void noRoomComesFirst(Check check) {
        ProofDesk desk = full();
        check.refused(desk, "", Check.by(0, 0, 0, 1, 0, 0), -3);
        check.refused(desk, "#", Check.by(0, 0, 0, 1, 0, 0), -3);
        check.refused(desk, "", Check.by(7, 0, 0, 1, 0, 0), -3);
        check.refused(desk, "p(", Check.by(0, 99, 0, 1, 0, 0), -3);
        check.refused(desk, "p(a)", Check.by(4, 0, 0, 0, 0, 0), -3);
    }

    private static void thenWhatIsNotThere(Check check) {
        for (int number : new int[] {Integer.MIN_VALUE, -1, 2, 30, Integer.MAX_VALUE}) {
            ProofDesk desk = Check.deskWith("p(X)|a=X", "~p(a)");
            for (String claim : new String[] {"", "p(", "p", "p(X)"}) {
                check.refused(desk, claim, Check.by(0, number, 0, 1, 0, 0), -4);
                check.refused(desk, claim, Check.by(0, 0, number, 1, 0, 0), -4);
                check.refused(desk, claim, Check.by(0, 0, 0, number, 0, 0), -4);
                check.refused(desk, claim, Check.by(0, 0, 0, 1, number, 0), -4);
                check.refused(desk, claim, Check.by(1, 0, 0, 0, number, 0), -4);
                check.refused(desk, claim, Check.by(2, 1, number, 0, 0, 0), -4);
                check.refused(desk, claim, Check.by(3, 0, 0, 1, 0, number), -4);
                check.refused(desk, claim, Check.by(4, number, 0, 0, 0, 0), -4);
            }
        }
        ProofDesk desk = Check.deskWith("p(X)|a=X", "~p(a)");
        for (int rule : new int[] {Integer.MIN_VALUE, -1, 5, 100, Integer.MAX_VALUE}) {
            check.refused(desk, "", Check.by(rule, 0, 0, 1, 0, 0), -4);
            check.refused(desk, "p(", Check.by(rule, 0, 0, 1, 0, 0), -4);
        }
        check.refused(desk, "", Check.by(4, 0, 0, 0, 0, 0), -4);
        check.refused(new ProofDesk(), "", Check.by(0, 0, 0, 0, 0, 0), -4);
        check.refused(new ProofDesk(), "p", Check.by(4, 0, 0, 0, 0, 0), -4);
        ProofDesk empty = Check.deskWith("#", "p");
        check.refused(empty, "", Check.by(0, 0, 0, 1, 0, 0), -4);
        check.refused(empty, "", Check.by(0, 1, 0, 0, 0, 0), -4);
    }

    private static void thenTheClaim(Check check) {
        ProofDesk desk = Check.deskWith("p(X)", "~p(a)", "~q", "a=b");
        check.refused(desk, "p(", Check.by(0, 0, 0, 0, 0, 0), -1);
        check.refused(desk, "p", Check.by(0, 0, 0, 0, 0, 0), -2);
        check.refused(desk, "p(", Check.by(0, 0, 0, 2, 0, 0), -1);
        check.refused(desk, "q(X)", Check.by(0, 0, 0, 2, 0, 0), -2);
        check.refused(desk, "p(", Check.by(0, 0, 0, 1, 0, 0), -1);
        check.refused(desk, "#|", Check.by(2, 0, 0, 0, 0, 0), -1);
        check.refused(desk, "a", Check.by(3, 3, 0, 1, 0, 0), -2);
        check.refused(desk, "p|p(", Check.by(4, 0, 0, 1, 0, 0), -1);
        check.refused(desk, "r|r(a)", Check.by(4, 0, 0, 1, 0, 0), -2);
    }

    private static void thenTheRule(Check check) {
        ProofDesk desk = Check.deskWith("p(X)", "~p(a)", "~q", "a=b");
        check.refused(desk, "r", Check.by(0, 0, 0, 0, 0, 0), -5);
        check.refused(desk, "r", Check.by(0, 0, 0, 2, 0, 0), -6);
        check.refused(desk, "r", Check.by(0, 0, 0, 1, 0, 0), -8);
        check.refused(desk, "r", Check.by(1, 0, 0, 0, 0, 0), -5);
        check.refused(desk, "r", Check.by(2, 2, 0, 0, 0, 0), -5);
        check.refused(desk, "r", Check.by(3, 1, 0, 1, 0, 0), -5);
        check.refused(desk, "r", Check.by(3, 3, 0, 1, 0, 100), -6);
        check.refused(desk, "r", Check.by(3, 3, 0, 1, 0, 0), -8);
        check.refused(desk, "r", Check.by(4, 3, 0, 1, 0, 0), -8);
        check.step(desk, "~p(b)", Check.by(3, 3, 0, 1, 0, 0), "~p(b)");
    }

    private static void onlyRightStepsAdd(Check check) {
        ProofDesk desk = Check.deskWith("p(X)", "~p(a)");
        for (int number = 2; number < 30; number++) {
            check.refused(desk, "p(b)", Check.by(0, 0, 0, 1, 0, 0), -8);
            check.step(desk, "#", Check.by(0, 0, 0, 1, 0, 0), "#");
        }
        check.refused(desk, "#", Check.by(0, 0, 0, 1, 0, 0), -3);
        check.given(desk, "p(a)", Check.STATE, -3);
        check.is("first text", Check.text(desk, 0), "p(A)");
    }
}
