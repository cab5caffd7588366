/** Promise 4, rule 0: resolution. */
final class Promise04StepResolutionTest {
    public static void main(String[] args) {
        Check check = new Check();
        ordinary(check);
        variablesApart(check);
        onceEach(check);
        noFit(check);
        noUnifier(check);
        check.end();
    }

    private static int[] by(int i, int k, int j, int l) {
        return Check.by(0, i, k, j, l, 77);
    }

    private static void ordinary(Check check) {
        ProofDesk desk = Check.deskWith("p(X)|~q(X,f(Y))", "~p(g(a))|r", "q(Z,f(b))");
        check.step(desk, "", by(0, 0, 1, 0), "~q(g(a),f(A))|r");
        check.step(desk, "", by(1, 0, 0, 0), "r|~q(g(a),f(A))");
        check.step(desk, "", by(0, 1, 2, 0), "p(A)");
        check.step(desk, "", by(3, 0, 2, 0), "r");
        ProofDesk small = Check.deskWith("p", "~p", "a=X", "~Y=b");
        check.step(small, "", by(0, 0, 1, 0), "#");
        check.step(small, "", by(1, 0, 0, 0), "#");
        check.step(small, "", by(2, 0, 3, 0), "#");
        ProofDesk middle = Check.deskWith("p|q|r", "s|~q|t");
        check.step(middle, "", by(0, 1, 1, 1), "p|r|s|t");
        check.step(middle, "", by(1, 1, 0, 1), "s|t|p|r");
    }

    private static void variablesApart(Check check) {
        ProofDesk desk = Check.deskWith("p(X,f(X))|q(X)", "~p(f(X),X)", "~p(Y,X)|r(X,Y)", "s(X)|~s(f(X))");
        check.refused(desk, "", by(0, 0, 1, 0), -6);
        check.step(desk, "", by(0, 0, 2, 0), "q(A)|r(f(A),A)");
        check.step(desk, "", by(3, 0, 3, 1), "~s(f(f(A)))|s(A)");
        check.step(desk, "", by(3, 1, 3, 0), "s(A)|~s(f(f(A)))");
        ProofDesk names = Check.deskWith("p(A)|q(B,A)", "~p(B)|q(B,A)");
        check.step(names, "", by(0, 0, 1, 0), "q(A,B)|q(B,C)");
    }

    private static void onceEach(Check check) {
        ProofDesk desk = Check.deskWith("p(X)|q(X)|r(a)", "~p(a)|r(a)|q(a)", "~p(X)|q(X)|~r(b)");
        check.step(desk, "", by(0, 0, 1, 0), "q(a)|r(a)");
        check.step(desk, "", by(1, 0, 0, 0), "r(a)|q(a)");
        check.step(desk, "", by(0, 0, 2, 0), "q(A)|r(a)|~r(b)");
        ProofDesk one = Check.deskWith("p(X,Y)|q(X)|q(Y)", "~p(Z,Z)");
        check.step(one, "", by(0, 0, 1, 0), "q(A)");
        ProofDesk signs = Check.deskWith("p|q", "~p|~q");
        check.step(signs, "", by(0, 0, 1, 0), "q|~q");
    }

    private static void noFit(Check check) {
        ProofDesk desk = Check.deskWith("p(X)|~q(X)", "~p(a)|q(b)", "a=b", "b=a");
        check.refused(desk, "", by(0, 0, 0, 0), -5);
        check.refused(desk, "", by(0, 0, 1, 1), -5);
        check.refused(desk, "", by(0, 1, 1, 0), -5);
        check.refused(desk, "", by(2, 0, 3, 0), -5);
        check.refused(desk, "", by(0, 1, 0, 1), -5);
    }

    private static void noUnifier(Check check) {
        ProofDesk desk = Check.deskWith("p(X)|~q(X)", "~p(a)|q(b)", "a=b", "~b=a", "~p(f(X))|s", "q(a)|X=X", "t(X,X)",
                "~t(Y,f(Y))", "~t(f(Y),g(Z))");
        check.refused(desk, "", by(0, 0, 0, 1), -6);
        check.refused(desk, "", by(2, 0, 3, 0), -6);
        check.refused(desk, "", by(2, 0, 0, 1), -6);
        check.refused(desk, "", by(5, 0, 4, 0), -6);
        check.refused(desk, "", by(5, 1, 3, 0), -6);
        check.refused(desk, "", by(6, 0, 7, 0), -6);
        check.refused(desk, "", by(6, 0, 8, 0), -6);
        ProofDesk round = Check.deskWith("p(X,Y,Z)|q(X,Y,Z)", "~p(f(U),f(V),f(W))", "~q(V,W,U)|~r(U,V,W)");
        check.step(round, "", by(0, 0, 1, 0), "q(f(A),f(B),f(C))");
        check.step(round, "", by(3, 0, 2, 0), "~r(f(A),f(B),f(C))");
        ProofDesk ring = Check.deskWith("p(X,Y,Z)", "~p(f(Y),f(Z),f(X))", "~p(f(Y),f(Z),X)");
        check.refused(ring, "", by(0, 0, 0, 0), -5);
        check.step(ring, "", by(0, 0, 1, 0), "#");
        ProofDesk knot = Check.deskWith("p(X,Y,X)|q(Y)", "~p(f(Y),f(Z),Z)", "~p(f(Y),f(Z),Y)", "~p(f(Y),Y,f(f(Z)))");
        check.step(knot, "", by(0, 0, 1, 0), "q(f(f(A)))");
        check.refused(knot, "", by(0, 0, 2, 0), -6);
        check.step(knot, "", by(0, 0, 3, 0), "q(f(A))");
    }
}
