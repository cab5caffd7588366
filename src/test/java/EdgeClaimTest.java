/** The edges that the document names for claims. */
final class EdgeClaimTest {
    private static final int[] RESOLVE = Check.by(0, 0, 0, 1, 0, 0);

    public static void main(String[] args) {
        Check check = new Check();
        notEmpty(check);
        readAsAClause(check);
        oneNameForOneVariable(check);
        inBothDirections(check);
        literalsInOrder(check);
        sameLiterals(check);
        whatIsAdded(check);
        everyRule(check);
        emptyResult(check);
        check.end();
    }

    private static void notEmpty(Check check) {
        check.sentence("A CLAIM is the draft, when that is not empty");
        ProofDesk desk = Check.deskWith("p|q", "~p");
        check.step(desk, "", RESOLVE, "q");
        check.step(desk, "q", RESOLVE, "q");
        check.refused(desk, "r", RESOLVE, -8);
        check.refused(desk, " ", RESOLVE, -1);
        check.is("no character", desk.write((char) 10), false);
        check.step(desk, "", RESOLVE, "q");
    }

    private static void readAsAClause(Check check) {
        check.sentence("read as a clause");
        ProofDesk desk = Check.deskWith("p|q", "~p");
        check.refused(desk, "q|", RESOLVE, -1);
        check.refused(desk, "q(a)", RESOLVE, -2);
        check.refused(desk, "q|r|r(a)", RESOLVE, -2);
        check.refused(desk, "q|r|s|t|u|v|w", RESOLVE, -1);
        check.step(desk, "q|q", RESOLVE, "q");
    }

    private static void oneNameForOneVariable(Check check) {
        check.sentence("it must be the result but for the names of variables (one name for one variable)");
        ProofDesk desk = Check.deskWith("p|q(X,Y,X)|r(Y)", "~p");
        String made = "q(A,B,A)|r(B)";
        for (String claim : new String[] {made, "q(B,A,B)|r(A)", "q(Z,Y,Z)|r(Y)", "q(Y,Z,Y)|r(Z)", "q(B,C,B)|r(C)"}) {
            check.step(desk, claim, RESOLVE, made);
        }
        for (String claim : new String[] {"q(A,B,C)|r(B)", "q(A,B,A)|r(C)", "q(A,B,B)|r(B)", "q(A,B,A)|r(A)",
            "q(a,B,a)|r(B)", "q(A,b,A)|r(b)", "q(f(A),B,f(A))|r(B)"}) {
            check.refused(desk, claim, RESOLVE, -8);
        }
    }

    private static void inBothDirections(Check check) {
        check.sentence("in both directions");
        ProofDesk desk = Check.deskWith("p|q(X,Y)", "~p", "p|q(X,X)");
        check.step(desk, "q(U,V)", RESOLVE, "q(A,B)");
        check.refused(desk, "q(U,U)", RESOLVE, -8);
        check.step(desk, "q(U,U)", Check.by(0, 2, 0, 1, 0, 0), "q(A,A)");
        check.refused(desk, "q(U,V)", Check.by(0, 2, 0, 1, 0, 0), -8);
        ProofDesk turned = Check.deskWith("p|q(X,Y)|r(Y,X)", "~p", "p|q(X,Y)|r(X,Y)");
        check.step(turned, "q(B,A)|r(A,B)", RESOLVE, "q(A,B)|r(B,A)");
        check.refused(turned, "q(A,B)|r(A,B)", RESOLVE, -8);
        check.refused(turned, "q(B,A)|r(A,B)", Check.by(0, 2, 0, 1, 0, 0), -8);
    }

    private static void literalsInOrder(Check check) {
        check.sentence("literals in order");
        ProofDesk desk = Check.deskWith("p|q|r|s", "~p");
        check.step(desk, "q|r|s", RESOLVE, "q|r|s");
        for (String claim : new String[] {"q|s|r", "r|q|s", "s|r|q", "q|r", "r|s", "q|r|s|t", "q|r|s|p", "q"}) {
            check.refused(desk, claim, RESOLVE, -8);
        }
        check.step(desk, "q|r|q|s|r", RESOLVE, "q|r|s");
    }

    private static void sameLiterals(Check check) {
        ProofDesk desk = Check.deskWith("p|q(a)|~r|a=b", "~p");
        for (String claim : new String[] {"q(b)|~r|a=b", "~q(a)|~r|a=b", "q(a)|r|a=b", "q(a)|~r|b=a", "q(a)|~r|~a=b",
            "q(a)|~s|a=b", "q(f(a))|~r|a=b", "q(A)|~r|a=b"}) {
            check.refused(desk, claim, RESOLVE, -8);
        }
        check.step(desk, "q(a)|~r|a=b", RESOLVE, "q(a)|~r|a=b");
    }

    private static void whatIsAdded(Check check) {
        check.sentence("What is added is the result, or, with rule 4, the claim");
        ProofDesk desk = Check.deskWith("p|q(X,Y)", "~p");
        check.step(desk, "q(Z,M)", RESOLVE, "q(A,B)");
        check.step(desk, "q(Z,M)|r(M,Z)|p", Check.by(4, 0, 0, 0, 0, 0), "q(A,B)|r(B,A)|p");
    }

    private static void everyRule(Check check) {
        check.sentence("With rules 0 to 3 it must be the result");
        ProofDesk desk = Check.deskWith("p(X)|p(a)", "~p(X)", "~X=a|p(X)", "a=b");
        int[][] steps = {Check.by(0, 0, 0, 1, 0, 0), Check.by(1, 0, 0, 0, 1, 0), Check.by(2, 2, 0, 0, 0, 0),
            Check.by(3, 3, 0, 0, 1, 0)};
        String[] made = {"p(a)", "p(a)", "p(a)", "p(A)|p(b)"};
        String[] more = {"p(X)", "p(X)", "p(X)", "p(X)|p(Y)"};
        String[] less = {"p(a)|p(b)", "p(a)|~p(a)", "p(a)|p(X)", "p(c)|p(b)"};
        for (int rule = 0; rule < steps.length; rule++) {
            check.step(desk, made[rule], steps[rule], made[rule]);
            check.refused(desk, more[rule], steps[rule], -8);
            check.refused(desk, less[rule], steps[rule], -8);
        }
    }

    private static void emptyResult(Check check) {
        ProofDesk desk = Check.deskWith("p", "~p", "p|q");
        check.step(desk, "#", RESOLVE, "#");
        check.refused(desk, "p", RESOLVE, -8);
        check.refused(desk, "#", Check.by(0, 2, 0, 1, 0, 0), -8);
    }
}
