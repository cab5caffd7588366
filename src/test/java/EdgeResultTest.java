/** The edges that the document names for the result of a step. */
final class EdgeResultTest {
    private static final int[] RESOLVE = Check.by(0, 0, 0, 1, 0, 0);
    private static final int[] FACTOR = Check.by(1, 0, 0, 0, 1, 0);
    private static final int[] REFLECT = Check.by(2, 0, 0, 0, 0, 0);
    private static final int[] REWRITE = Check.by(3, 0, 0, 1, 0, 0);

    public static void main(String[] args) {
        Check check = new Check();
        eachOnce(check);
        whereItComesFirst(check);
        names(check);
        sixLiterals(check);
        sixLiteralsOfRewriting(check);
        sixLiteralsThen(check);
        sizeOfResolution(check);
        sizeOfFactoring(check);
        sizeOfReflection(check);
        sizeOfRewriting(check);
        sizeThen(check);
        hugeSizes(check);
        variablesOfResolution(check);
        variablesOfRewriting(check);
        variablesThen(check);
        check.end();
    }

    private static String term(int size) {
        String[] small = {"", "a", "f(a)", "g(a,a)"};
        return size < small.length ? small[size] : "h(" + term(size - 3) + ",a,a)";
    }

    private static void size(Check check, int due, int[] step, String... texts) {
        ProofDesk desk = Check.deskWith(texts);
        check.is("step from " + String.join(" and ", texts), Check.step(desk, step), texts.length);
        check.is("size from " + String.join(" and ", texts), desk.size(texts.length), due);
    }

    private static void great(Check check, int[] step, String... texts) {
        check.refused(Check.deskWith(texts), "", step, -7);
    }

    private static void made(Check check, String due, int[] step, String... texts) {
        check.step(Check.deskWith(texts), "", step, due);
    }

    private static void eachOnce(Check check) {
        check.sentence("THE RESULT has the literals with the substitution, each once");
        made(check, "q(a)|r", RESOLVE, "p(X)|q(X)|r", "~p(a)|q(a)|r");
        made(check, "p(A)", FACTOR, "p(X)|p(Y)|p(X)");
        made(check, "p(A,A)", FACTOR, "p(X,Y)|p(Y,X)|p(X,X)");
        made(check, "q(A)", REFLECT, "~X=Y|q(X)|q(Y)");
        made(check, "q(b)", REWRITE, "a=b|q(b)", "q(a)");
        made(check, "q|~q", RESOLVE, "p|q", "~p|~q");
        made(check, "q(A)|q(B)", RESOLVE, "p|q(X)", "~p|q(X)");
    }

    private static void whereItComesFirst(Check check) {
        check.sentence("where it comes first");
        made(check, "q|r|s", RESOLVE, "p|q|r", "~p|s|r|q");
        made(check, "q(a)|r|q(b)", REFLECT, "~X=a|q(X)|r|q(a)|q(b)");
        made(check, "p(b)|q", REWRITE, "a=b", "p(a)|q|p(b)");
        made(check, "p(b)|q", Check.by(3, 0, 0, 1, 2, 0), "a=b", "p(b)|q|p(a)");
        made(check, "q(A)|r(A)", Check.by(1, 0, 0, 0, 2, 0), "q(X)|r(Y)|q(Y)|r(X)");
    }

    private static void names(Check check) {
        check.sentence("Its variables are then called A, B, .. in the order in which they come first");
        made(check, "q(A,B)|r(B,C)", RESOLVE, "p(X)|q(Y,X)", "~p(Z)|r(Z,Y)");
        made(check, "q(A,A)|s(B)", RESOLVE, "p(X,Y)|q(Y,X)", "~p(Z,Z)|s(U)");
        made(check, "A=B|q(B,A)", REFLECT, "~X=f(U)|Z=Y|q(Y,Z)");
        made(check, "q(A)|q(B)|s(B)", RESOLVE, "p(X,Y)|q(Y)|q(X)", "~p(Z,U)|s(Z)");
    }

    private static void sixLiterals(Check check) {
        check.sentence("It is GREAT when it has more than 6 literals");
        made(check, "q(a)|q(b)|q(c)|r(a)|r(b)|r(c)", RESOLVE, "p|q(a)|q(b)|q(c)", "~p|r(a)|r(b)|r(c)");
        great(check, RESOLVE, "p|q(a)|q(b)|q(c)|q(d)", "~p|r(a)|r(b)|r(c)");
        great(check, RESOLVE, "p|q(a)|q(b)|q(c)", "~p|r(a)|r(b)|r(c)|r(d)");
        great(check, RESOLVE, "p|q(a)|q(b)|q(c)|q(d)|q(e)", "~p|r(a)|r(b)|r(c)|r(d)|r(e)");
        made(check, "q(a)|q(b)|q(c)|q(d)|q(e)|r", RESOLVE, "p|q(a)|q(b)|q(c)|q(d)|q(e)", "~p|r");
        great(check, RESOLVE, "p|q(a)|q(b)|q(c)|q(d)|q(e)", "~p|r|s");
    }

    private static void sixLiteralsOfRewriting(Check check) {
        made(check, "q(c)|q(d)|q(e)|r(b)|r(c)|r(d)", REWRITE, "a=b|q(c)|q(d)|q(e)", "r(a)|r(c)|r(d)");
        great(check, REWRITE, "a=b|q(c)|q(d)|q(e)", "r(a)|r(c)|r(d)|r(e)");
        great(check, REWRITE, "a=b|q(c)|q(d)|q(e)|q(f)", "r(a)|r(c)|r(d)");
        made(check, "r(b)|q(b)|q(c)|q(d)|q(e)|q(f)", REWRITE, "a=b", "r(a)|q(b)|q(c)|q(d)|q(e)|q(f)");
        great(check, REWRITE, "a=b|s", "r(a)|q(b)|q(c)|q(d)|q(e)|q(f)");
    }

    /** What counts is how many there are when each stands once. */
    private static void sixLiteralsThen(Check check) {
        made(check, "q(a)|q(b)|q(c)|q(d)|q(e)|r", RESOLVE, "p|q(a)|q(b)|q(c)|q(d)|q(e)", "~p|q(e)|q(a)|r|q(b)|q(d)");
        great(check, RESOLVE, "p|q(a)|q(b)|q(c)|q(d)|q(e)", "~p|q(e)|q(a)|r|q(b)|s");
        made(check, "q(a)|q(b)|q(c)|q(d)|q(e)|r(b)", REWRITE, "a=b|q(a)|q(b)|q(c)|q(d)|q(e)", "r(a)|q(e)|q(a)|r(b)");
        made(check, "q(a)|q(b)|q(c)|q(d)|q(e)|r", RESOLVE, "p(X)|q(a)|q(X)|q(c)|q(d)|q(e)", "~p(b)|q(e)|q(b)|r|q(c)");
    }

    private static void sizeOfResolution(Check check) {
        check.sentence("a size above 40");
        String twenty = "q(" + term(6) + "," + term(6) + "," + term(7) + ")";
        size(check, 40, RESOLVE, "p|" + twenty, "~p|~" + twenty);
        size(check, 39, RESOLVE, "p|" + twenty, "~p|~" + twenty.replace(term(7), term(6)));
        great(check, RESOLVE, "p|" + twenty, "~p|~" + twenty.replace(term(7), term(8)));
        great(check, RESOLVE, "p|" + twenty, "~p|r|~" + twenty);
        size(check, 40, RESOLVE, "p(X)|q(X,X,X)", "~p(" + term(13) + ")");
        great(check, RESOLVE, "p(X)|q(X,X,X)|r", "~p(" + term(13) + ")");
        great(check, RESOLVE, "p(X)|q(X,X,X)", "~p(" + term(14) + ")");
    }

    private static void sizeOfFactoring(Check check) {
        size(check, 40, FACTOR, "p(X)|p(" + term(12) + ")|q(X,X)|r|s");
        great(check, FACTOR, "p(X)|p(" + term(12) + ")|q(X,X)|r|s|t");
        great(check, FACTOR, "p(X)|p(" + term(13) + ")|q(X,X)");
    }

    private static void sizeOfReflection(Check check) {
        size(check, 40, REFLECT, "~X=" + term(13) + "|q(X,X,X)");
        great(check, REFLECT, "~X=" + term(13) + "|q(X,X,X)|r");
        size(check, 40, REFLECT, "~X=" + term(18) + "|X=X|q(f(a))");
        great(check, REFLECT, "~X=" + term(18) + "|X=X|q(f(f(a)))");
        size(check, 39, REFLECT, "~X=" + term(19) + "|X=X");
        great(check, REFLECT, "~X=" + term(20) + "|X=X");
    }

    private static void sizeOfRewriting(Check check) {
        size(check, 40, REWRITE, "f(X)=h(X,X,X)", "q(f(" + term(12) + "))|r|s");
        great(check, REWRITE, "f(X)=h(X,X,X)", "q(f(" + term(12) + "))|r|s|t");
        great(check, REWRITE, "f(X)=h(X,X,X)|r", "q(f(" + term(12) + "))|s|t");
        great(check, REWRITE, "f(X)=h(X,X,X)", "q(f(" + term(13) + "))");
        size(check, 40, REWRITE, "f(b)=" + term(21), "q(f(b)," + term(18) + ")");
        great(check, REWRITE, "f(b)=" + term(21), "q(f(b)," + term(19) + ")");
    }

    /** A literal that comes again does not make the result greater. */
    private static void sizeThen(Check check) {
        String twenty = "q(" + term(6) + "," + term(6) + "," + term(7) + ")";
        size(check, 20, RESOLVE, "p|" + twenty, "~p|" + twenty);
        ProofDesk desk = Check.deskWith("s(X)|p|q(X,X,X)|v", "s(X)|~p|t|u|q(X,X,X)", "s(X)|p|q(X,X,X)|v|w",
                "~s(" + term(12) + ")");
        for (int clause = 0; clause < 3; clause++) {
            check.is("with great terms", Check.step(desk, Check.by(0, clause, 0, 3, 0, 0)), 4 + clause);
        }
        check.is("step", Check.step(desk, Check.by(0, 4, 0, 5, 0, 0)), 7);
        check.is("size", desk.size(7), 40);
        check.is("literals", desk.literals(7), 4);
        check.refused(desk, "", Check.by(0, 6, 0, 5, 0, 0), -7);
    }

    /** Terms that double again and again are great, but those that the result has not do no harm. */
    private static void hugeSizes(Check check) {
        String doubling = "~h(A,B,h(C,D,E))=h(g(B,B),g(C,C),h(g(D,D),g(E,E),a))|q(";
        great(check, REFLECT, doubling + "A,A)");
        size(check, 32, REFLECT, doubling + "A)");
        size(check, 33, REFLECT, doubling + "A,E)");
        size(check, 0, REFLECT, doubling.substring(0, doubling.length() - 3));
        size(check, 8, REFLECT, doubling + "C)");
    }

    private static void variablesOfResolution(Check check) {
        check.sentence("or more than 26 variables");
        String twelve = "s(h(A,B,C),h(D,E,F),h(G,H,I))|t(J,K,L)";
        String next = "s(h(N,O,P),h(Q,R,S),h(T,U,V))|t(W,X,Y)|v(Z)";
        made(check, twelve + "|v(M)|" + next, RESOLVE, "p|" + twelve + "|v(M)", "~p|" + twelve + "|v(M)");
        great(check, RESOLVE, "p|" + twelve + "|v(M)", "~p|" + twelve + "|u(M,N)");
        great(check, RESOLVE, "p|" + twelve + "|u(M,N)", "~p|" + twelve + "|v(M)");
        size(check, 39, RESOLVE, "p|" + twelve + "|v(M)", "~p|" + twelve + "|u(M,M)");
    }

    private static void variablesOfRewriting(Check check) {
        String twelve = "s(h(A,B,C),h(D,E,F),h(G,H,I))|t(J,K,L)";
        String next = "s(h(O,P,Q),h(R,S,T),h(U,V,W))|t(X,Y,Z)";
        made(check, twelve + "|u(M,N)|" + next, REWRITE, "a=M|" + twelve, "u(a,N)|" + twelve);
        great(check, REWRITE, "a=M|" + twelve, "w(a,M,N)|" + twelve);
        size(check, 38, REWRITE, "a=M|" + twelve, "w(a,M,M)|" + twelve);
    }

    /** Variables that the unifier makes the same, or that only stood in what is left out, do not count. */
    private static void variablesThen(Check check) {
        String twelve = "s(h(A,B,C),h(D,E,F),h(G,H,I))|t(J,K,L)";
        size(check, 39, RESOLVE, "p(A)|" + twelve + "|v(M)", "~p(M)|" + twelve + "|u(M,N)");
        size(check, 38, RESOLVE, "p(X,Y)|" + twelve + "|v(M)", "~p(Z,U)|" + twelve + "|v(M)");
        great(check, RESOLVE, "p(X)|" + twelve + "|v(M)", "~p(Z)|" + twelve + "|u(M,Z)");
    }
}
