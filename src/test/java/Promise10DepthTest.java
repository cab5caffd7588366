/** Promise 10: 0 for a given clause, else one more than that of the deepest parent. */
final class Promise10DepthTest {
    public static void main(String[] args) {
        Check check = new Check();
        ProofDesk desk = Check.deskWith("p(X)|p(a)|~a=X|~q", "q", "a=b", "~p(Y)");
        check.step(desk, "", Check.by(0, 0, 3, 1, 0, 0), "p(A)|p(a)|~a=A");
        check.step(desk, "", Check.by(2, 4, 2, 0, 0, 0), "p(a)");
        check.step(desk, "", Check.by(3, 2, 0, 5, 0, 0), "p(b)");
        check.step(desk, "", Check.by(0, 3, 0, 6, 0, 0), "#");
        check.step(desk, "p(f(c))|p(a)|~a=f(c)", Check.by(4, 4, 0, 7, 0, 0), "p(f(c))|p(a)|~a=f(c)");
        check.step(desk, "", Check.by(1, 4, 0, 7, 1, 0), "p(a)|~a=a");
        check.step(desk, "", Check.by(0, 6, 0, 3, 0, 0), "#");
        int[] due = {0, 0, 0, 0, 1, 2, 3, 4, 2, 2, 4};
        for (int clause = 0; clause < due.length; clause++) {
            check.is("depth of " + clause, desk.depth(clause), due[clause]);
        }
        for (int none : new int[] {-1, 11, 30, Integer.MIN_VALUE, Integer.MAX_VALUE}) {
            check.is("depth of " + none, desk.depth(none), -1);
        }
        deep(check);
        check.end();
    }

    private static void deep(Check check) {
        ProofDesk desk = Check.deskWith("p(X)");
        for (int clause = 1; clause < 30; clause++) {
            check.step(desk, "p(Y)", Check.by(4, clause - 1, 0, 0, 0, 0), "p(A)");
            check.is("depth " + clause, desk.depth(clause), clause);
        }
    }
}
