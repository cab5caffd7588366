/** Promise 4, rule 4: specialising. */
final class Promise04StepSpecialisingTest {
    public static void main(String[] args) {
        Check check = new Check();
        ordinary(check);
        search(check);
        emptyClauses(check);
        lettersOfClaims(check);
        check.end();
    }

    private static int[] by(int i) {
        return Check.by(4, i, -3, 99, 50, -1);
    }

    private static void ordinary(Check check) {
        ProofDesk desk = Check.deskWith("p(X,Y)|p(Y,X)|~r(X)", "q(X)", "X=Y|q(Y)");
        check.step(desk, "~r(c)|p(c,c)|s", by(0), "~r(c)|p(c,c)|s");
        check.refused(desk, "p(c,d)|~r(c)", by(0), -8);
        check.step(desk, "p(c,d)|~r(d)|p(d,c)", by(0), "p(c,d)|~r(d)|p(d,c)");
        check.refused(desk, "p(c,d)|p(d,c)|r(d)", by(0), -8);
        check.refused(desk, "", by(0), -4);
        check.step(desk, "q(f(Z,Y))", by(1), "q(f(A,B))");
        check.step(desk, "q(f(A,A))", by(1), "q(f(A,A))");
        check.step(desk, "q(B)|q(A)|~q(B)", by(1), "q(A)|q(B)|~q(A)");
        check.refused(desk, "~q(A)", by(1), -8);
        check.refused(desk, "#", by(1), -8);
        check.refused(desk, "q(c)|c=d", by(2), -8);
        check.step(desk, "q(d)|c=d", by(2), "q(d)|c=d");
        check.refused(desk, "q(X)|q(Y", by(1), -1);
        check.refused(desk, "q(X,Y)", by(1), -2);
        check.refused(desk, "q(X)", by(99), -4);
        check.refused(desk, "q(X)", by(-1), -4);
        ProofDesk ground = Check.deskWith("p(a)");
        check.refused(ground, "p(X)", by(0), -8);
        check.refused(ground, "p(b)", by(0), -8);
        check.step(ground, "p(b)|p(a)", by(0), "p(b)|p(a)");
    }

    private static void search(Check check) {
        ProofDesk desk = Check.deskWith("p(X,Y)|p(Y,Z)|p(Z,X)", "p(X,Y)|p(Y,Z)|q(Z)|q(W)|p(Z,W)");
        check.step(desk, "p(a,b)|p(a,c)|p(c,d)|p(b,c)|p(d,b)", by(0), "p(a,b)|p(a,c)|p(c,d)|p(b,c)|p(d,b)");
        check.refused(desk, "p(a,b)|p(a,c)|p(c,d)|p(b,c)|p(b,d)", by(0), -8);
        check.step(desk, "p(b,b)|p(a,b)", by(0), "p(b,b)|p(a,b)");
        check.refused(desk, "p(a,b)|p(b,c)|p(b,d)|q(d)|q(a)", by(1), -8);
        check.step(desk, "p(a,b)|q(e)|p(b,c)|p(b,d)|q(d)|p(d,e)", by(1), "p(a,b)|q(e)|p(b,c)|p(b,d)|q(d)|p(d,e)");
        ProofDesk wide = Check.deskWith("p(A)|p(B)|p(C)|p(D)|p(E)|q", "r(A,B)|r(B,C)|r(C,D)|r(D,E)|r(E,F)|r(F,A)");
        check.refused(wide, "p(a)|p(b)|p(c)|p(d)|p(e)|p(f)", by(0), -8);
        check.step(wide, "q|p(a)", by(0), "q|p(a)");
        check.refused(wide, "r(a,b)|r(b,c)|r(c,d)|r(d,e)|r(e,f)|r(a,f)", by(1), -8);
        check.step(wide, "r(b,a)|r(c,b)|r(a,c)", by(1), "r(b,a)|r(c,b)|r(a,c)");
    }

    private static void emptyClauses(Check check) {
        ProofDesk desk = Check.deskWith("#", "p");
        check.step(desk, "#", by(0), "#");
        check.step(desk, "q(X)|~p", by(0), "q(A)|~p");
        check.refused(desk, "#", by(1), -8);
    }

    private static void lettersOfClaims(Check check) {
        ProofDesk desk = Check.deskWith("p(X)|q(X)", "~p(a)");
        check.refused(desk, "p(b(c))", by(0), -8);
        check.given(desk, "c(b)", 2);
        check.step(desk, "p(d(a))|q(d(a))|e", by(0), "p(d(a))|q(d(a))|e");
        check.given(desk, "d", Check.ARGUMENT, -2);
        check.given(desk, "p(e)", Check.ARGUMENT, -2);
        check.refused(desk, "p(d)|q(d)", by(0), -2);
        check.refused(desk, "q(g)", Check.by(0, 0, 0, 1, 0, 0), -8);
        check.given(desk, "g(a)", 4);
    }
}
