/** Promise 13: an atom and its negation, or an equation with two same sides. */
final class Promise13TrivialTest {
    public static void main(String[] args) {
        Check check = new Check();
        for (String text : new String[] {"p|~p", "~p|q|p", "p(X)|q|~p(X)", "X=X", "a=a", "f(X,a)=f(X,a)", "p|X=X",
            "a=b|~a=b", "~f(X)=Y|q|f(X)=Y", "~X=Y|u(Y,X)|X=X", "~a=a|a=a"}) {
            check.is("trivial " + text, Check.deskWith(text).trivial(0), true);
        }
        for (String text : new String[] {"#", "p", "~p", "p|q", "p|~q", "p(X)|~p(Y)", "p(a)|~p(b)", "X=Y", "a=b",
            "~X=X", "~a=a", "a=b|~b=a", "a=b|b=a", "f(X)=X", "f(X,Y)=f(Y,X)", "p(a,a)", "p(X)|~p(f(X))",
            "p(a,b)|~p(b,a)", "f(a)=g(a)"}) {
            check.is("trivial " + text, Check.deskWith(text).trivial(0), false);
        }
        ProofDesk desk = Check.deskWith("p(X)|~p(Y)|q(X,Y)", "~q(Z,Z)");
        check.step(desk, "", Check.by(0, 0, 2, 1, 0, 0), "p(A)|~p(A)");
        check.is("a result", desk.trivial(2), true);
        for (int none : new int[] {-1, 3, 30, Integer.MIN_VALUE, Integer.MAX_VALUE}) {
            check.is("trivial " + none, desk.trivial(none), false);
        }
        check.end();
    }
}
