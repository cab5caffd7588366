/** Promise 4, rule 1: factoring. */
final class Promise04StepFactoringTest {
    public static void main(String[] args) {
        Check check = new Check();
        ProofDesk desk = Check.deskWith("p(X,Y)|p(Y,X)|~r(X)", "p(X,a)|q(X,Y)|p(b,Y)", "~X=a|~b=Y|p(X,Y)",
                "r(X)|r(f(X))|~r(a)|r(b)|s|t", "s|X=Y|Y=X|f(X)=Y");
        check.step(desk, "", by(0, 0, 1), "p(A,A)|~r(A)");
        check.step(desk, "", by(0, 1, 0), "p(A,A)|~r(A)");
        check.step(desk, "", by(1, 0, 2), "p(b,a)|q(b,a)");
        check.step(desk, "", by(1, 2, 0), "q(b,a)|p(b,a)");
        check.step(desk, "", by(2, 0, 1), "~b=a|p(b,a)");
        check.step(desk, "", by(3, 0, 3), "r(b)|r(f(b))|~r(a)|s|t");
        check.step(desk, "", by(3, 3, 0), "r(f(b))|~r(a)|r(b)|s|t");
        check.step(desk, "", by(4, 1, 2), "s|A=A|f(A)=A");
        check.refused(desk, "", by(4, 3, 2), -6);
        check.refused(desk, "", by(4, 1, 3), -6);
        check.refused(desk, "", by(4, 1, 1), -5);
        check.refused(desk, "", by(0, 0, 0), -5);
        check.refused(desk, "", by(0, 0, 2), -5);
        check.refused(desk, "", by(0, 2, 1), -5);
        check.refused(desk, "", by(3, 0, 1), -6);
        check.refused(desk, "", by(3, 0, 4), -6);
        check.refused(desk, "", by(3, 4, 5), -6);
        check.refused(desk, "", by(4, 0, 1), -6);
        check.refused(desk, "", by(0, 0, 3), -4);
        check.refused(desk, "", by(0, 3, 0), -4);
        check.refused(desk, "", by(0, -1, 0), -4);
        check.refused(desk, "", by(0, 0, -1), -4);
        check.refused(desk, "", by(-1, 0, 1), -4);
        theOtherClauseIsNotLookedAt(check);
        check.end();
    }

    private static int[] by(int i, int k, int l) {
        return Check.by(1, i, k, 99, l, -5);
    }

    private static void theOtherClauseIsNotLookedAt(Check check) {
        ProofDesk desk = Check.deskWith("p(X)|p(a)", "q");
        for (int j : new int[] {Integer.MIN_VALUE, -1, 0, 1, 30, Integer.MAX_VALUE}) {
            check.step(desk, "", Check.by(1, 0, 0, j, 1, 0), "p(a)");
        }
        check.is("parents", desk.depth(7), 1);
        check.is("needs 1", desk.needs(3, 1), false);
    }
}
