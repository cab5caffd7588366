/** The edges that the document names for rule 4. */
final class EdgeSpecialisingTest {
    private static final int[] FAR = {Integer.MIN_VALUE, -1, 0, 1, 6, 30, 100, Integer.MAX_VALUE};

    public static void main(String[] args) {
        Check check = new Check();
        mustBeAClaim(check);
        othersNotLookedAt(check);
        variablesOfI(check);
        sameTermEverywhere(check);
        eachLiteral(check);
        signsAndSides(check);
        moreOrFewerLiterals(check);
        emptyClauses(check);
        search(check);
        mostVariables(check);
        namesOfClaims(check);
        check.end();
    }

    private static int[] by(int i) {
        return Check.by(4, i, 0, 0, 0, 0);
    }

    private static void mustBeAClaim(Check check) {
        check.sentence("There must be a claim");
        ProofDesk desk = Check.deskWith("p(X)", "#");
        check.refused(desk, "", by(0), -4);
        check.refused(desk, "", by(1), -4);
        check.refused(desk, " ", by(0), -1);
        check.step(desk, "p(X)", by(0), "p(A)");
        check.step(desk, "#", by(1), "#");
    }

    private static void othersNotLookedAt(Check check) {
        check.sentence("SPECIALISING (k, j, l not looked at)");
        ProofDesk desk = Check.deskWith("p(X)", "q");
        for (int far : FAR) {
            check.step(desk, "p(a)", Check.by(4, 0, far, 0, 0, 0), "p(a)");
            check.step(desk, "p(a)", Check.by(4, 0, 0, far, 0, far), "p(a)");
            check.step(desk, "p(a)", Check.by(4, 0, 0, 0, far, 0), "p(a)");
        }
        check.is("needs j", desk.needs(5, 1), false);
        for (int none : new int[] {Integer.MIN_VALUE, -1, 30, Integer.MAX_VALUE}) {
            check.refused(Check.deskWith("p(X)"), "p(a)", by(none), -4);
        }
        check.refused(Check.deskWith("p(X)"), "p(a)", by(1), -4);
    }

    private static void variablesOfI(Check check) {
        check.sentence("a substitution for the variables of i");
        ProofDesk desk = Check.deskWith("p(X,Y)", "p(a,X)", "p(f(X),X)");
        check.step(desk, "p(X,Y)", by(0), "p(A,B)");
        check.step(desk, "p(Y,X)", by(0), "p(A,B)");
        check.step(desk, "p(X,X)", by(0), "p(A,A)");
        check.step(desk, "p(B,A)", by(0), "p(A,B)");
        check.step(desk, "p(f(A),f(f(B)))", by(0), "p(f(A),f(f(B)))");
        check.step(desk, "p(f(A),A)", by(0), "p(f(A),A)");
        check.step(desk, "p(a,f(A))", by(1), "p(a,f(A))");
        check.refused(desk, "p(X,a)", by(1), -8);
        check.refused(desk, "p(b,a)", by(1), -8);
        check.refused(desk, "p(f(a),a)", by(1), -8);
        check.step(desk, "p(f(f(B)),f(B))", by(2), "p(f(f(A)),f(A))");
        check.refused(desk, "p(f(f(B)),B)", by(2), -8);
        check.refused(desk, "p(A,B)", by(2), -8);
    }

    private static void sameTermEverywhere(Check check) {
        ProofDesk desk = Check.deskWith("p(X,X)|q(X)", "X=X");
        check.step(desk, "p(a,a)|q(a)", by(0), "p(a,a)|q(a)");
        check.refused(desk, "p(a,b)|q(a)", by(0), -8);
        check.refused(desk, "p(a,a)|q(b)", by(0), -8);
        check.refused(desk, "p(A,B)|q(A)", by(0), -8);
        check.refused(desk, "p(f(a),f(b))|q(f(a))", by(0), -8);
        check.step(desk, "f(A)=f(A)", by(1), "f(A)=f(A)");
        check.refused(desk, "f(A)=f(B)", by(1), -8);
    }

    private static void eachLiteral(Check check) {
        check.sentence("makes each of its literals one of the claim's");
        ProofDesk desk = Check.deskWith("p(X)|q(X)|r");
        check.step(desk, "r|q(a)|p(a)", by(0), "r|q(a)|p(a)");
        check.refused(desk, "p(a)|q(a)", by(0), -8);
        check.refused(desk, "p(a)|r", by(0), -8);
        check.refused(desk, "q(a)|r", by(0), -8);
        check.refused(desk, "p(a)|q(b)|r", by(0), -8);
        check.step(desk, "p(a)|q(b)|p(b)|r", by(0), "p(a)|q(b)|p(b)|r");
    }

    private static void signsAndSides(Check check) {
        ProofDesk desk = Check.deskWith("~p(X)", "a=X", "~a=X");
        check.step(desk, "~p(a)", by(0), "~p(a)");
        check.refused(desk, "p(a)", by(0), -8);
        check.step(desk, "a=b", by(1), "a=b");
        check.refused(desk, "b=a", by(1), -8);
        check.refused(desk, "~a=b", by(1), -8);
        check.step(desk, "~a=b", by(2), "~a=b");
        check.refused(desk, "a=b", by(2), -8);
    }

    private static void moreOrFewerLiterals(Check check) {
        ProofDesk desk = Check.deskWith("p(X)|p(Y)", "p(A)|p(B)|p(C)|p(D)|p(E)|p(F)", "p(X)");
        check.step(desk, "p(a)", by(0), "p(a)");
        check.step(desk, "p(a)", by(1), "p(a)");
        check.step(desk, "p(a)|p(b)|p(c)|p(d)|p(e)|p(f)", by(1), "p(a)|p(b)|p(c)|p(d)|p(e)|p(f)");
        check.step(desk, "q|r|s|t|u|p(a)", by(2), "q|r|s|t|u|p(a)");
        check.refused(desk, "q|r|s|t|u|~p(a)", by(2), -8);
    }

    private static void emptyClauses(Check check) {
        ProofDesk desk = Check.deskWith("#", "p(X)");
        check.step(desk, "#", by(0), "#");
        check.step(desk, "q|~r(X)", by(0), "q|~r(A)");
        check.refused(desk, "#", by(1), -8);
    }

    /** The first literal that fits need not be the right one, not even five literals before the fault shows. */
    private static void search(Check check) {
        ProofDesk desk = Check.deskWith("p(A,B)|p(B,C)|p(C,D)|p(D,E)|p(E,F)|p(F,A)", "p(X,Y)|p(Y,Z)|q(Z)");
        check.step(desk, "p(a,b)|p(b,c)|p(c,d)|p(d,e)|p(e,f)|p(f,a)", by(0), "p(a,b)|p(b,c)|p(c,d)|p(d,e)|p(e,f)|p(f,a)");
        check.refused(desk, "p(a,b)|p(b,c)|p(c,d)|p(d,e)|p(e,f)|p(a,f)", by(0), -8);
        check.step(desk, "p(a,b)|p(b,a)", by(0), "p(a,b)|p(b,a)");
        check.refused(desk, "p(a,b)|p(b,c)|p(c,d)|p(d,a)|p(d,e)", by(0), -8);
        check.step(desk, "p(e,a)|p(a,b)|p(a,c)|q(d)|p(c,d)|p(b,e)", by(1), "p(e,a)|p(a,b)|p(a,c)|q(d)|p(c,d)|p(b,e)");
        check.refused(desk, "p(e,a)|p(a,b)|p(a,c)|q(a)|p(c,d)|p(d,c)", by(1), -8);
    }

    /** A clause with all 26 variables, of which the last one stands twice. */
    private static void mostVariables(Check check) {
        String twelve = "s(h(A,B,C),h(D,E,F),h(G,H,I))|t(J,K,L)";
        ProofDesk desk = Check.deskWith("p|" + twelve + "|v(M)", "~p|" + twelve + "|u(M,M)");
        check.is("step", Check.step(desk, Check.by(0, 0, 0, 1, 0, 0)), 2);
        String special = "s(h(a,a,a),h(a,a,a),h(a,a,a))|t(a,a,a)|v(a)";
        check.step(desk, special + "|u(b,b)", by(2), special + "|u(b,b)");
        check.refused(desk, special + "|u(a,b)", by(2), -8);
        check.step(desk, special + "|u(a,b)|u(b,b)", by(2), special + "|u(a,b)|u(b,b)");
    }

    private static void namesOfClaims(Check check) {
        check.sentence("with rule 4, the claim with its variables called A, B, .. likewise");
        ProofDesk desk = Check.deskWith("p(X)");
        check.step(desk, "q(Z,Y)|p(Y)|q(X,Z)", by(0), "q(A,B)|p(B)|q(C,A)");
        check.step(desk, "q(B,A)|p(B)", by(0), "q(A,B)|p(A)");
    }
}
