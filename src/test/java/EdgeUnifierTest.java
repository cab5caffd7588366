/** The edges that the document names for substitutions and unifiers. */
final class EdgeUnifierTest {
    public static void main(String[] args) {
        Check check = new Check();
        neverInItself(check);
        neverInRings(check);
        onePredicate(check);
        sideBySide(check);
        mostGeneral(check);
        twoParents(check);
        oneTwice(check);
        oneParentKeepsItsVariables(check);
        mostVariables(check);
        check.end();
    }

    private static int[] reflect(int i) {
        return Check.by(2, i, 0, 0, 0, 0);
    }

    private static void neverInItself(Check check) {
        check.sentence("(A variable is never given a term that has it in it.)");
        ProofDesk desk = Check.deskWith("~X=X|p(X)", "~X=f(X)|p(X)", "~f(X)=X|p(X)", "~X=f(Y)|p(X)", "~f(X)=f(X)|p(X)",
                "~X=f(f(f(f(X))))|p(X)", "~f(X)=f(f(X))", "~g(X,Y)=g(Y,X)|p(X)", "~g(X,X)=g(Y,f(Y))");
        check.step(desk, "", reflect(0), "p(A)");
        check.refused(desk, "", reflect(1), -6);
        check.refused(desk, "", reflect(2), -6);
        check.step(desk, "", reflect(3), "p(f(A))");
        check.step(desk, "", reflect(4), "p(A)");
        check.refused(desk, "", reflect(5), -6);
        check.refused(desk, "", reflect(6), -6);
        check.step(desk, "", reflect(7), "p(A)");
        check.refused(desk, "", reflect(8), -6);
        inEveryTerm(check);
        ProofDesk two = Check.deskWith("p(X,f(X))", "~p(Y,Y)", "~p(f(Y),Y)", "~p(f(Y),f(f(Y)))");
        check.refused(two, "", Check.by(0, 0, 0, 1, 0, 0), -6);
        check.refused(two, "", Check.by(0, 0, 0, 2, 0, 0), -6);
        check.step(two, "", Check.by(0, 0, 0, 3, 0, 0), "#");
        ProofDesk rewrite = Check.deskWith("g(X,f(X))=X", "p(g(Y,Y))", "p(g(Y,Z))");
        check.refused(rewrite, "", Check.by(3, 0, 0, 1, 0, 0), -6);
        check.step(rewrite, "", Check.by(3, 0, 0, 2, 0, 0), "p(A)");
    }

    private static void inEveryTerm(Check check) {
        ProofDesk desk = Check.deskWith("~X=h(X,a,b)", "~X=h(a,X,b)", "~X=h(a,b,X)", "~g(a,X)=X", "~X=h(a,b,h(b,a,X))",
                "~h(a,f(X),b)=X", "~X=h(a,Y,b)", "~g(X,a)=g(g(a,Y),Y)", "~g(X,Y)=g(g(a,Y),g(a,X))");
        for (int clause = 0; clause < 6; clause++) {
            check.refused(desk, "", reflect(clause), -6);
        }
        check.step(desk, "", reflect(6), "#");
        check.step(desk, "", reflect(7), "#");
        check.refused(desk, "", reflect(8), -6);
    }

    private static void neverInRings(Check check) {
        ProofDesk desk = Check.deskWith("p(X,Y)|p(f(Y),f(X))", "p(X,Y)|p(f(Y),f(a))", "p(X,Y)|p(Y,X)",
                "q(X,Y,Z)|q(f(Y),f(Z),f(X))", "q(X,Y,Z)|q(f(Y),f(Z),f(U))", "q(X,Y,Z)|q(Y,Z,X)",
                "q(X,Y,Z)|q(Y,Z,f(X))");
        int[] due = {-6, 0, 0, -6, 0, 0, -6};
        for (int clause = 0; clause < due.length; clause++) {
            check.is("ring " + clause, Check.step(desk, Check.by(1, clause, 0, 0, 1, 0)) < 0, due[clause] < 0);
            check.is("fault of ring " + clause, desk.fault(), due[clause]);
        }
    }

    private static void onePredicate(Check check) {
        check.sentence("A UNIFIER of two terms (or atoms of one predicate)");
        ProofDesk desk = Check.deskWith("p(X)|q(X)|X=a|r", "~p(a)|~q(a)|~a=a|~r");
        for (int k = 0; k < 4; k++) {
            for (int l = 0; l < 4; l++) {
                if (k != l) {
                    check.refused(desk, "", Check.by(0, 0, k, 1, l, 0), -6);
                    check.refused(desk, "", Check.by(1, 0, k, 0, l, 0), -6);
                }
            }
        }
        check.step(desk, "", Check.by(0, 0, 0, 1, 0, 0), "q(a)|a=a|r|~q(a)|~a=a|~r");
        check.step(desk, "", Check.by(0, 0, 2, 1, 2, 0), "p(a)|q(a)|r|~p(a)|~q(a)|~r");
    }

    private static void sideBySide(Check check) {
        check.sentence("of equations side by side, as they stand");
        ProofDesk desk = Check.deskWith("a=b", "~b=a", "~a=b", "X=a", "~b=Y", "~a=c", "~Y=c", "a=X|X=b|Y=b");
        check.refused(desk, "", Check.by(0, 0, 0, 1, 0, 0), -6);
        check.step(desk, "", Check.by(0, 0, 0, 2, 0, 0), "#");
        check.step(desk, "", Check.by(0, 3, 0, 4, 0, 0), "#");
        check.refused(desk, "", Check.by(0, 3, 0, 5, 0, 0), -6);
        check.refused(desk, "", Check.by(0, 3, 0, 6, 0, 0), -6);
        check.refused(desk, "", Check.by(1, 7, 0, 0, 1, 0), -6);
        check.step(desk, "", Check.by(1, 7, 0, 0, 2, 0), "a=b|b=b");
    }

    private static void mostGeneral(Check check) {
        check.sentence("a MOST GENERAL one is one from which every other one comes");
        ProofDesk desk = Check.deskWith("p(X,Y)|q(X,Y,Z)", "~p(Y,f(U))", "~p(X,X)|r(X)", "p(X,Y)|p(Z,U)|q(X,Z,Y)");
        check.step(desk, "", Check.by(0, 0, 0, 1, 0, 0), "q(A,f(B),C)");
        check.step(desk, "", Check.by(0, 0, 0, 2, 0, 0), "q(A,A,B)|r(A)");
        check.step(desk, "", Check.by(1, 3, 0, 0, 1, 0), "p(A,B)|q(A,A,B)");
    }

    private static void twoParents(Check check) {
        check.sentence("Before a step with two parents the variables of the second parent are made others");
        ProofDesk desk = Check.deskWith("p(X)|q(X,Y)", "~p(f(X))|r(X,Y)", "g(X)=X|q(X,Y)", "r(g(f(X)),X)");
        check.step(desk, "", Check.by(0, 0, 0, 1, 0, 0), "q(f(A),B)|r(A,C)");
        check.step(desk, "", Check.by(3, 2, 0, 3, 0, 0), "q(f(A),B)|r(f(A),A)");
        check.step(desk, "", Check.by(0, 1, 0, 0, 0, 0), "r(A,B)|q(f(A),C)");
    }

    private static void oneTwice(Check check) {
        check.sentence("(or one twice)");
        ProofDesk desk = Check.deskWith("p(X)|~p(f(X))", "f(f(X))=X", "g(X,Y)=g(Y,X)");
        check.step(desk, "", Check.by(0, 0, 0, 0, 1, 0), "~p(f(f(A)))|p(A)");
        check.step(desk, "", Check.by(0, 0, 1, 0, 0, 0), "p(A)|~p(f(f(A)))");
        check.step(desk, "", Check.by(3, 1, 0, 1, 0, 1), "f(A)=f(A)");
        check.step(desk, "", Check.by(3, 2, 0, 2, 0, 0), "g(A,B)=g(A,B)");
    }

    /** Factoring and reflection have one parent, whose variables stay what they are. */
    private static void oneParentKeepsItsVariables(Check check) {
        ProofDesk desk = Check.deskWith("p(X)|p(f(X))", "p(X)|p(f(Y))", "~X=f(X)", "~X=f(Y)");
        check.refused(desk, "", Check.by(1, 0, 0, 0, 1, 0), -6);
        check.step(desk, "", Check.by(1, 1, 0, 0, 1, 0), "p(f(A))");
        check.refused(desk, "", reflect(2), -6);
        check.step(desk, "", reflect(3), "#");
    }

    /** Both parents have 26 variables, so 52 are told apart in one step. */
    private static void mostVariables(Check check) {
        check.sentence("the variables of the second parent are made others than those of the first");
        String thirteen = "h(h(A,B,C),h(D,E,F),h(G,H,h(I,J,h(K,L,M))))";
        String others = "h(h(N,O,P),h(Q,R,S),h(T,U,h(V,W,h(X,Y,Z))))";
        ProofDesk desk = Check.deskWith("r(X)|s(Y)|p(X,Y)", "r(X)|s(Y)|~p(X,Y)", "~r(" + thirteen + ")",
                "~s(" + thirteen + ")", "~p(X,X)", "~p(X,Y)|q(Y)");
        check.is("step", Check.step(desk, Check.by(0, 0, 0, 2, 0, 0)), 6);
        check.step(desk, "", Check.by(0, 6, 0, 3, 0, 0), "p(" + thirteen + "," + others + ")");
        check.is("step", Check.step(desk, Check.by(0, 1, 0, 2, 0, 0)), 8);
        check.step(desk, "", Check.by(0, 8, 0, 3, 0, 0), "~p(" + thirteen + "," + others + ")");
        check.step(desk, "", Check.by(0, 7, 0, 9, 0, 0), "#");
        check.step(desk, "", Check.by(0, 4, 0, 7, 0, 0), "#");
        check.step(desk, "", Check.by(0, 5, 0, 7, 0, 0), "q(" + thirteen + ")");
        check.step(desk, "", Check.by(0, 7, 0, 5, 0, 0), "q(" + thirteen + ")");
    }
}
