/** Promise 8: the number of letters and signs of equality. */
final class Promise08SizeTest {
    public static void main(String[] args) {
        Check check = new Check();
        String[] texts = {"#", "p(X)|~q(X,f(Y))", "q(a,b)|q(a,b)", "~a=b", "f(a)=b|~r", "r|~r", "p(f(f(X)))|X=Y|r"};
        int[] due = {0, 6, 3, 3, 5, 2, 8};
        ProofDesk desk = Check.deskWith(texts);
        for (int clause = 0; clause < due.length; clause++) {
            check.is("size of " + texts[clause], desk.size(clause), due[clause]);
        }
        check.given(desk, "q(g(Z),Y)|q(g(Z),f(Z))", 7);
        check.step(desk, "", Check.by(0, 1, 1, 7, 0, 0), "p(g(A))|q(g(A),f(A))");
        check.is("size of a result", desk.size(8), 8);
        check.step(desk, "", Check.by(0, 5, 0, 5, 1, 0), "~r|r");
        check.is("size of a result of signs", desk.size(9), 2);
        for (int none : new int[] {-1, 10, 29, 30, Integer.MIN_VALUE, Integer.MAX_VALUE}) {
            check.is("size of " + none, desk.size(none), -1);
        }
        check.end();
    }
}
