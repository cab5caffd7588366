/** Promise 4, rule 3: rewriting. */
final class Promise04StepRewritingTest {
    public static void main(String[] args) {
        Check check = new Check();
        places(check);
        turnedRound(check);
        wholeClauses(check);
        ownTerms(check);
        notThere(check);
        check.end();
    }

    private static int[] by(int i, int k, int j, int l, int p) {
        return Check.by(3, i, k, j, l, p);
    }

    private static void places(Check check) {
        ProofDesk desk = Check.deskWith("f(X,e)=X", "~f(f(a,e),e)=f(e,e)|p(a,f(b,e))");
        check.step(desk, "", by(0, 0, 1, 0, 0), "~f(a,e)=f(e,e)|p(a,f(b,e))");
        check.step(desk, "", by(0, 0, 1, 0, 1), "~f(a,e)=f(e,e)|p(a,f(b,e))");
        check.refused(desk, "", by(0, 0, 1, 0, 2), -6);
        check.refused(desk, "", by(0, 0, 1, 0, 3), -6);
        check.refused(desk, "", by(0, 0, 1, 0, 4), -6);
        check.step(desk, "", by(0, 0, 1, 0, 5), "~f(f(a,e),e)=e|p(a,f(b,e))");
        check.refused(desk, "", by(0, 0, 1, 0, 7), -6);
        check.refused(desk, "", by(0, 0, 1, 0, 8), -4);
        check.refused(desk, "", by(0, 0, 1, 1, 0), -6);
        check.step(desk, "", by(0, 0, 1, 1, 1), "~f(f(a,e),e)=f(e,e)|p(a,b)");
        check.refused(desk, "", by(0, 0, 1, 1, 4), -4);
    }

    private static void turnedRound(Check check) {
        ProofDesk desk = Check.deskWith("f(X,e)=g(X)", "p(g(a),f(b,e))|q(g(Y))", "X=h(X,Y,X)");
        check.step(desk, "", by(0, 0, 1, 0, 100), "p(f(a,e),f(b,e))|q(g(A))");
        check.step(desk, "", by(0, 0, 1, 0, 2), "p(g(a),g(b))|q(g(A))");
        check.refused(desk, "", by(0, 0, 1, 0, 102), -6);
        check.step(desk, "", by(0, 0, 1, 1, 100), "p(g(a),f(b,e))|q(f(A,e))");
        check.step(desk, "", by(2, 0, 1, 0, 1), "p(g(h(a,A,a)),f(b,e))|q(g(B))");
        check.refused(desk, "", by(2, 0, 1, 0, 101), -6);
        check.step(desk, "", by(2, 0, 2, 0, 1), "A=h(h(A,B,A),C,h(A,B,A))");
        check.step(desk, "", by(2, 0, 2, 0, 101), "A=A");
        check.refused(desk, "", by(0, 0, 1, 1, 99), -4);
        check.refused(desk, "", by(0, 0, 1, 1, 102), -4);
        check.refused(desk, "", by(0, 0, 1, 1, 200), -4);
    }

    private static void wholeClauses(Check check) {
        ProofDesk desk = Check.deskWith("r(X)|f(X)=g(Y)|~s(Y,X)", "t|p(f(a),Z)|s(Z,Z)", "f(a)=b|p(b,X)",
                "~p(f(a),X)|p(b,X)");
        check.step(desk, "", by(0, 1, 1, 1, 0), "r(a)|~s(A,a)|t|p(g(A),B)|s(B,B)");
        check.step(desk, "", by(2, 0, 1, 1, 0), "p(b,A)|t|p(b,B)|s(B,B)");
        check.step(desk, "", by(2, 0, 3, 0, 0), "p(b,A)|~p(b,B)|p(b,B)");
        ProofDesk one = Check.deskWith("f(a)=b", "p(f(a))|p(b)|q", "p(b)|p(f(a))");
        check.step(one, "", by(0, 0, 1, 0, 0), "p(b)|q");
        check.step(one, "", by(0, 0, 2, 1, 0), "p(b)");
        check.refused(one, "", by(1, 0, 2, 1, 0), -5);
        check.refused(one, "", by(1, 2, 2, 1, 0), -5);
        ProofDesk negated = Check.deskWith("~f(a)=b", "p(f(a))");
        check.refused(negated, "", by(0, 0, 1, 0, 0), -5);
        check.refused(negated, "", by(0, 0, 1, 0, 2), -4);
    }

    private static void ownTerms(Check check) {
        ProofDesk desk = Check.deskWith("f(f(X))=X", "X=a|q(X,X)", "p(g(b),b)", "g(X)=X|q(X,g(X))");
        check.step(desk, "", by(0, 0, 0, 0, 0), "A=A");
        check.step(desk, "", by(0, 0, 0, 0, 1), "f(A)=f(A)");
        check.step(desk, "", by(1, 0, 2, 0, 0), "q(g(b),g(b))|p(a,b)");
        check.step(desk, "", by(1, 0, 2, 0, 1), "q(b,b)|p(g(a),b)");
        check.step(desk, "", by(1, 0, 2, 0, 2), "q(b,b)|p(g(b),a)");
        check.step(desk, "", by(3, 0, 3, 0, 0), "q(A,g(A))|A=A");
        check.step(desk, "", by(3, 0, 3, 1, 1), "q(A,g(A))|g(A)=A|q(A,A)");
        check.step(desk, "", by(3, 0, 3, 0, 100), "q(g(A),g(g(A)))|g(g(A))=A|q(A,g(A))");
    }

    private static void notThere(Check check) {
        ProofDesk desk = Check.deskWith("f(a)=b", "p(X,f(a))|r|X=a");
        for (int p : new int[] {-1, -100, 3, 99, 100 + 3, 199, 200, Integer.MAX_VALUE, Integer.MIN_VALUE, 0, 100}) {
            check.refused(desk, "", by(0, 0, 1, 0, p), -4);
        }
        check.refused(desk, "", by(0, 0, 1, 1, 0), -4);
        check.refused(desk, "", by(0, 0, 1, 2, 0), -4);
        check.refused(desk, "", by(0, 0, 1, 2, 2), -4);
        check.refused(desk, "", by(0, 0, 1, 2, 1), -6);
        check.refused(desk, "", by(0, 1, 1, 0, 1), -4);
        check.refused(desk, "", by(0, 0, 1, 3, 1), -4);
        check.refused(desk, "", by(0, 0, 2, 0, 1), -4);
        check.refused(desk, "", by(2, 0, 1, 0, 1), -4);
        check.step(desk, "", by(0, 0, 1, 0, 1), "p(A,b)|r|A=a");
    }
}
