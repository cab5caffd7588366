/** Promise 4: the result must not have more than 6 literals, a size above 40, or more than 26 variables. */
final class Promise04StepGreatTest {
    private static final int[] RESOLVE = Check.by(0, 0, 0, 1, 0, 0);

    public static void main(String[] args) {
        Check check = new Check();
        literals(check);
        size(check);
        variables(check);
        grownTerms(check);
        check.end();
    }

    private static void literals(Check check) {
        check.step(Check.deskWith("p|q(a)|q(b)|q(c)", "~p|q(d)|q(e)|q(f)"), "", RESOLVE,
                "q(a)|q(b)|q(c)|q(d)|q(e)|q(f)");
        check.refused(Check.deskWith("p|q(a)|q(b)|q(c)|q(g)", "~p|q(d)|q(e)|q(f)"), "", RESOLVE, -7);
        check.step(Check.deskWith("p|q(a)|q(b)|q(c)|q(g)", "~p|q(d)|q(a)|q(f)|q(g)"), "", RESOLVE,
                "q(a)|q(b)|q(c)|q(g)|q(d)|q(f)");
        check.step(Check.deskWith("p|q(a)|q(b)|q(c)|q(d)|q(e)", "~p|q(e)|q(d)|q(c)|q(b)|q(a)"), "", RESOLVE,
                "q(a)|q(b)|q(c)|q(d)|q(e)");
        check.refused(Check.deskWith("p|q(a)|q(b)|q(c)|q(d)|q(e)", "~p|q(f)|q(g)|q(h)|q(i)|q(j)"), "#", RESOLVE, -7);
    }

    private static void size(Check check) {
        String twenty = "s(h(a,b,c),h(a,b,c),h(a,b,c))|t(a,b,c)|u(a,b)";
        check.step(Check.deskWith("p|" + twenty, "~p|" + twenty.replace('a', 'd')), "", RESOLVE,
                twenty + "|" + twenty.replace('a', 'd'));
        check.is("size", sizeAfter("p|" + twenty, "~p|" + twenty.replace('a', 'd')), 40);
        check.refused(Check.deskWith("p|" + twenty, "~p|" + twenty.replace('a', 'd').replace("u(d", "u(f(d)")), "",
                RESOLVE, -7);
        check.step(Check.deskWith("p|" + twenty, "~p|" + twenty), "", RESOLVE, twenty);
        check.refused(Check.deskWith("p|" + twenty, "~p|" + twenty.replace('a', 'd').replace("u(d", "u(f(d)")),
                "p|w", RESOLVE, -7);
    }

    private static int sizeAfter(String one, String other) {
        ProofDesk desk = Check.deskWith(one, other);
        Check.step(desk, RESOLVE);
        return desk.size(2);
    }

    private static void variables(Check check) {
        String twelve = "s(h(A,B,C),h(D,E,F),h(G,H,I))|t(J,K,L)";
        String second = "s(h(N,O,P),h(Q,R,S),h(T,U,V))|t(W,X,Y)|v(Z)";
        check.step(Check.deskWith("p|" + twelve + "|v(M)", "~p|" + twelve + "|v(M)"), "", RESOLVE,
                twelve + "|v(M)|" + second);
        check.refused(Check.deskWith("p|" + twelve + "|v(M)", "~p|" + twelve + "|u(M,N)"), "", RESOLVE, -7);
        check.refused(Check.deskWith("p|" + twelve + "|u(M,N)", "~p|" + twelve + "|u(M,N)"), "", RESOLVE, -7);
        check.step(Check.deskWith("p(A)|" + twelve + "|v(M)", "~p(N)|" + twelve + "|u(M,N)"), "", RESOLVE,
                twelve + "|v(M)|" + second.replace("v(Z)", "u(Z,A)"));
    }

    private static void grownTerms(Check check) {
        String doubling = "p(h(A,B,h(C,D,E)))|p(h(g(B,B),g(C,C),h(g(D,D),g(E,E),a)))";
        check.refused(Check.deskWith(doubling), "", Check.by(1, 0, 0, 0, 1, 0), -7);
        ProofDesk desk = Check.deskWith("p(h(A,B,C))|p(h(g(B,B),g(C,C),a))|q(A)");
        check.step(desk, "", Check.by(1, 0, 0, 0, 1, 0), "p(h(g(g(a,a),g(a,a)),g(a,a),a))|q(g(g(a,a),g(a,a)))");
        check.is("size of the grown clause", desk.size(1), 21);
        ProofDesk same = Check.deskWith("~h(A,B,C)=h(g(B,B),g(C,C),g(D,D))|q(g(B,B))|q(g(B,g(C,C)))");
        check.step(same, "", Check.by(2, 0, 0, 0, 0, 0),
                "q(g(g(g(A,A),g(A,A)),g(g(A,A),g(A,A))))");
        ProofDesk tall = Check.deskWith("~h(A,B,C)=h(g(B,B),g(C,C),g(D,D))|q(A)|~q(g(A,A))",
                "~h(A,B,C)=h(g(B,B),g(C,C),g(D,D))|r(A,B)|r(B,B)");
        check.refused(tall, "", Check.by(2, 0, 0, 0, 0, 0), -7);
        check.step(tall, "", Check.by(2, 1, 0, 0, 0, 0),
                "r(g(g(g(A,A),g(A,A)),g(g(A,A),g(A,A))),g(g(A,A),g(A,A)))|r(g(g(A,A),g(A,A)),g(g(A,A),g(A,A)))");
        check.is("size of the tall clause", tall.size(2), 38);
        rings(check);
    }

    /** A ring is no unifier, however great the terms would be that it is hidden in. */
    private static void rings(Check check) {
        ProofDesk desk = Check.deskWith("~h(A,B,C)=h(g(B,B),g(C,C),g(D,D))|~D=A", "p(A,B,C)|p(g(B,B),g(C,C),g(A,a))");
        check.step(desk, "", Check.by(2, 0, 1, 0, 0, 0), "~h(A,B,C)=h(g(B,B),g(C,C),g(A,A))");
        check.refused(desk, "", Check.by(2, 2, 0, 0, 0, 0), -6);
        check.refused(desk, "", Check.by(1, 1, 0, 0, 1, 0), -6);
    }
}
