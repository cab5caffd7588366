/** Promise 7: how many literals a clause has. */
final class Promise07LiteralsTest {
    public static void main(String[] args) {
        Check check = new Check();
        String[] texts = {"#", "p(X)", "p(X)|~p(X)", "p(X)|p(Y)|p(X)", "a=b|b=a|~a=b|p(a)|p(b)|p(c)", "~q"};
        int[] due = {0, 1, 2, 2, 6, 1};
        ProofDesk desk = Check.deskWith(texts);
        for (int clause = 0; clause < due.length; clause++) {
            check.is("literals of " + texts[clause], desk.literals(clause), due[clause]);
        }
        check.step(desk, "", Check.by(1, 3, 0, 0, 1, 0), "p(A)");
        check.is("literals of a result", desk.literals(6), 1);
        for (int none : new int[] {-1, 7, 29, 30, Integer.MIN_VALUE, Integer.MAX_VALUE}) {
            check.is("literals of " + none, desk.literals(none), -1);
        }
        check.is("of a new object", new ProofDesk().literals(0), -1);
        check.end();
    }
}
