/** Promise 11: which given clauses a clause was made from. */
final class Promise11NeedsTest {
    public static void main(String[] args) {
        Check check = new Check();
        ProofDesk desk = Check.deskWith("p(X)|~q(X)", "r", "~p(a)", "q(Y)", "a=b");
        check.step(desk, "", Check.by(0, 0, 0, 2, 0, 0), "~q(a)");
        check.step(desk, "", Check.by(0, 5, 0, 3, 0, 0), "#");
        check.step(desk, "", Check.by(3, 4, 0, 5, 0, 0), "~q(b)");
        check.step(desk, "r|s", Check.by(4, 1, 0, 6, 0, 0), "r|s");
        check.step(desk, "", Check.by(3, 4, 0, 4, 0, 0), "b=b");
        check.given(desk, "s|s|t", 10);
        int[][] due = {{0}, {1}, {2}, {3}, {4}, {0, 2}, {0, 2, 3}, {0, 2, 4}, {1}, {4}, {10}};
        for (int clause = 0; clause < due.length; clause++) {
            for (int need = -2; need < 14; need++) {
                boolean found = false;
                for (int number : due[clause]) {
                    found = found || number == need;
                }
                check.is("needs " + clause + " " + need, desk.needs(clause, need), found);
            }
            check.is("least need", desk.needs(clause, Integer.MIN_VALUE), false);
            check.is("greatest need", desk.needs(clause, Integer.MAX_VALUE), false);
        }
        for (int none : new int[] {-1, 11, 30, Integer.MIN_VALUE, Integer.MAX_VALUE}) {
            check.is("needs of " + none, desk.needs(none, 0), false);
        }
        manyNeeds(check);
        check.end();
    }

    private static void manyNeeds(Check check) {
        ProofDesk desk = new ProofDesk();
        for (int clause = 0; clause < 29; clause++) {
            check.given(desk, clause == 28 ? "~p" : "p", clause);
        }
        check.step(desk, "", Check.by(0, 28, 0, 17, 0, 0), "#");
        for (int need = 0; need < 32; need++) {
            check.is("of 29: " + need, desk.needs(29, need), need == 28 || need == 17);
        }
    }
}
