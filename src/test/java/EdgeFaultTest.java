/** The edges of promise 5. */
final class EdgeFaultTest {
    private static final int[] RESOLVE = Check.by(0, 0, 0, 1, 0, 0);

    public static void main(String[] args) {
        Check check = new Check();
        none(check);
        latestOnly(check);
        sameCodeForBoth(check);
        noRoom(check);
        onlyGivenAndStep(check);
        check.end();
    }

    private static ProofDesk desk() {
        return Check.deskWith("p(X)|q", "~p(a)", "p(b)|r(a)|r(b)|r(c)", "~p(b)|r(d)|r(e)|r(f)|r(g)");
    }

    private static void none(Check check) {
        check.sentence("Why the latest given or step threw: 0 it did not");
        ProofDesk desk = new ProofDesk();
        check.is("before any", desk.fault(), 0);
        Check.write(desk, "p");
        desk.write((char) 0);
        check.is("after write", desk.fault(), 0);
        check.is("given", Check.given(desk), 0);
        check.is("after given", desk.fault(), 0);
        check.step(desk, "p", Check.by(4, 0, 0, 0, 0, 0), "p");
    }

    /** After each fault comes a call that is right, and after that each other fault. */
    private static void latestOnly(Check check) {
        check.sentence("-1 SYNTAX, -2 USE, -4 .. there, -5 .. fit, -6 no unifier, -7 GREAT, -8 the claim");
        String[] claims = {"q|", "q(a)", "q", "", "", "", "p(a)"};
        int[][] steps = {RESOLVE, RESOLVE, Check.by(0, 0, 2, 1, 0, 0), Check.by(0, 0, 0, 0, 0, 0),
            Check.by(0, 0, 1, 1, 0, 0), Check.by(0, 2, 0, 3, 0, 0), RESOLVE};
        int[] faults = {-1, -2, -4, -5, -6, -7, -8};
        for (int first = 0; first < faults.length; first++) {
            ProofDesk desk = desk();
            for (int second = 0; second < faults.length; second++) {
                check.refused(desk, claims[first], steps[first], faults[first]);
                check.refused(desk, claims[second], steps[second], faults[second]);
            }
            check.step(desk, "q", RESOLVE, "q");
            check.refused(desk, claims[first], steps[first], faults[first]);
            check.given(desk, "q", 5, 0);
        }
    }

    private static void sameCodeForBoth(Check check) {
        check.sentence("the latest given or step");
        ProofDesk desk = desk();
        check.given(desk, "q|", Check.ARGUMENT, -1);
        check.refused(desk, "", Check.by(0, 0, 0, 0, 0, 0), -5);
        check.given(desk, "q(a)", Check.ARGUMENT, -2);
        check.refused(desk, "", Check.by(0, 9, 0, 0, 0, 0), -4);
        check.given(desk, "", Check.ARGUMENT, -1);
        check.step(desk, "", RESOLVE, "q");
        check.given(desk, "p", Check.ARGUMENT, -2);
        check.given(desk, "q", 5, 0);
    }

    private static void noRoom(Check check) {
        check.sentence("-3 there was no room");
        ProofDesk desk = desk();
        while (desk.clauses() < 30) {
            Check.step(desk, RESOLVE);
            check.is("fault", desk.fault(), 0);
        }
        check.given(desk, "q", Check.STATE, -3);
        check.given(desk, "q|", Check.ARGUMENT, -1);
        check.refused(desk, "", RESOLVE, -3);
        check.given(desk, "q(a)", Check.ARGUMENT, -2);
        check.refused(desk, "q|", Check.by(9, 9, 9, 9, 9, 9), -3);
    }

    private static void onlyGivenAndStep(Check check) {
        check.sentence("the latest given or step");
        ProofDesk desk = desk();
        check.refused(desk, "", Check.by(0, 0, 1, 1, 0, 0), -6);
        desk.write('q');
        check.is("after write", desk.fault(), -6);
        desk.write((char) 127);
        check.is("after a refused write", desk.fault(), -6);
        desk.clauses();
        desk.literals(99);
        desk.size(-1);
        desk.letter(0, 99);
        desk.depth(99);
        desk.needs(99, 0);
        desk.refuted();
        desk.trivial(-1);
        desk.draft();
        desk.fault();
        check.is("after questions", desk.fault(), -6);
        check.is("another object", new ProofDesk().fault(), 0);
        check.is("given", Check.given(desk), 4);
        check.is("after given", desk.fault(), 0);
    }
}
