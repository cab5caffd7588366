/** The edges that the document names for the rules 0, 1 and 2: resolution, factoring and reflection. */
final class EdgeRulesTest {
    private static final int[] FAR = {Integer.MIN_VALUE, -1, 0, 1, 5, 6, 29, 30, 100, Integer.MAX_VALUE};

    public static void main(String[] args) {
        Check check = new Check();
        rules(check);
        literalsFromNought(check);
        atomAndNegation(check);
        restOfResolution(check);
        placeOfResolution(check);
        kNotL(check);
        oneSign(check);
        restOfFactoring(check);
        otherClauseOfFactoring(check);
        negationOfEquation(check);
        unifierOfSides(check);
        restOfReflection(check);
        otherClauseOfReflection(check);
        check.end();
    }

    private static void rules(Check check) {
        check.sentence("RULES 0 to 4");
        ProofDesk desk = Check.deskWith("p(X)|p(a)", "~p(X)", "~X=a", "a=b");
        check.step(desk, "", Check.by(0, 0, 0, 1, 0, 0), "p(a)");
        check.step(desk, "", Check.by(1, 0, 0, 0, 1, 0), "p(a)");
        check.step(desk, "", Check.by(2, 2, 0, 0, 0, 0), "#");
        check.step(desk, "", Check.by(3, 3, 0, 0, 1, 0), "p(A)|p(b)");
        check.step(desk, "~p(a)", Check.by(4, 1, 0, 0, 0, 0), "~p(a)");
        for (int rule : new int[] {Integer.MIN_VALUE, -2, -1, 5, 6, 100, 256, Integer.MAX_VALUE}) {
            check.refused(desk, "", Check.by(rule, 0, 0, 1, 0, 0), -4);
            check.refused(desk, "p(a)", Check.by(rule, 0, 0, 1, 0, 0), -4);
        }
    }

    private static void literalsFromNought(Check check) {
        check.sentence("a clause i and its literal k (from 0), a clause j and its literal l");
        ProofDesk desk = Check.deskWith("p|q|r", "~r|~q|~p");
        check.step(desk, "", Check.by(0, 0, 0, 1, 2, 0), "q|r|~r|~q");
        check.step(desk, "", Check.by(0, 0, 2, 1, 0, 0), "p|q|~q|~p");
        for (int none : new int[] {Integer.MIN_VALUE, -1, 3, 4, 6, 7, 30, Integer.MAX_VALUE}) {
            check.refused(desk, "", Check.by(0, 0, none, 1, 2, 0), -4);
            check.refused(desk, "", Check.by(0, 0, 0, 1, none, 0), -4);
        }
        ProofDesk six = Check.deskWith("p(a)|p(b)|p(c)|p(d)|p(e)|p(f)", "~p(X)", "#");
        check.step(six, "", Check.by(0, 0, 5, 1, 0, 0), "p(a)|p(b)|p(c)|p(d)|p(e)");
        check.refused(six, "", Check.by(0, 0, 6, 1, 0, 0), -4);
        check.refused(six, "", Check.by(0, 2, 0, 1, 0, 0), -4);
        check.refused(six, "", Check.by(0, 1, 0, 2, 0, 0), -4);
        check.refused(six, "", Check.by(1, 2, 0, 0, 0, 0), -4);
        check.refused(six, "", Check.by(2, 2, 0, 0, 0, 0), -4);
    }

    private static void atomAndNegation(Check check) {
        check.sentence("RESOLUTION: k and l are an atom and a negated one");
        ProofDesk desk = Check.deskWith("p", "~p", "a=b", "~a=b");
        for (int clause = 0; clause < 4; clause += 2) {
            check.step(desk, "", Check.by(0, clause, 0, clause + 1, 0, 0), "#");
            check.step(desk, "", Check.by(0, clause + 1, 0, clause, 0, 0), "#");
            check.refused(desk, "", Check.by(0, clause, 0, clause, 0, 0), -5);
            check.refused(desk, "", Check.by(0, clause + 1, 0, clause + 1, 0, 0), -5);
        }
        check.refused(desk, "", Check.by(0, 0, 0, 2, 0, 0), -5);
        check.refused(desk, "", Check.by(0, 1, 0, 3, 0, 0), -5);
    }

    private static void restOfResolution(Check check) {
        check.sentence("the literals of i but k, then those of j but l");
        ProofDesk desk = Check.deskWith("q(A)|p(A)|r(A)", "s(B)|~p(B)|t(B)", "~p(X)|q(X)|r(X)|p(c)");
        check.step(desk, "", Check.by(0, 0, 1, 1, 1, 0), "q(A)|r(A)|s(A)|t(A)");
        check.step(desk, "", Check.by(0, 1, 1, 0, 1, 0), "s(A)|t(A)|q(A)|r(A)");
        check.step(desk, "", Check.by(0, 0, 1, 2, 0, 0), "q(A)|r(A)|p(c)");
        check.step(desk, "", Check.by(0, 2, 3, 2, 0, 0), "~p(A)|q(A)|r(A)|q(c)|r(c)|p(c)");
    }

    private static void placeOfResolution(Check check) {
        check.sentence("RULES, for a clause i and its literal k, a clause j and its literal l");
        ProofDesk desk = Check.deskWith("p", "~p");
        for (int p : FAR) {
            check.step(desk, "", Check.by(0, 0, 0, 1, 0, p), "#");
        }
    }

    private static void kNotL(Check check) {
        check.sentence("FACTORING (of i alone, k not l)");
        ProofDesk desk = Check.deskWith("p(X)|p(Y)", "q");
        check.refused(desk, "", Check.by(1, 0, 0, 0, 0, 0), -5);
        check.refused(desk, "", Check.by(1, 0, 1, 0, 1, 0), -5);
        check.refused(desk, "", Check.by(1, 1, 0, 0, 0, 0), -5);
        check.step(desk, "", Check.by(1, 0, 0, 0, 1, 0), "p(A)");
        check.step(desk, "", Check.by(1, 0, 1, 0, 0, 0), "p(A)");
        for (int none : new int[] {Integer.MIN_VALUE, -1, 2, 6, Integer.MAX_VALUE}) {
            check.refused(desk, "", Check.by(1, 0, none, 0, 1, 0), -4);
            check.refused(desk, "", Check.by(1, 0, 0, 0, none, 0), -4);
            check.refused(desk, "", Check.by(1, 0, none, 0, none, 0), -4);
        }
    }

    private static void oneSign(Check check) {
        check.sentence("literals k and l of i have one sign");
        ProofDesk desk = Check.deskWith("p(X)|p(Y)|~p(Z)|~p(U)", "a=X|~a=X|a=Y|~a=Y");
        check.step(desk, "", Check.by(1, 0, 0, 0, 1, 0), "p(A)|~p(B)|~p(C)");
        check.step(desk, "", Check.by(1, 0, 2, 0, 3, 0), "p(A)|p(B)|~p(C)");
        check.step(desk, "", Check.by(1, 1, 0, 0, 2, 0), "a=A|~a=A");
        check.step(desk, "", Check.by(1, 1, 1, 0, 3, 0), "a=A|~a=A");
        for (int k = 0; k < 2; k++) {
            check.refused(desk, "", Check.by(1, 0, k, 0, 2 + k, 0), -5);
            check.refused(desk, "", Check.by(1, 0, 2 + k, 0, k, 0), -5);
            check.refused(desk, "", Check.by(1, 1, k, 0, 1 - k, 0), -5);
        }
    }

    private static void restOfFactoring(Check check) {
        check.sentence("with the most general unifier of their atoms, the literals of i but l");
        ProofDesk desk = Check.deskWith("p(X)|q(X,Y)|p(f(Y))|r");
        check.step(desk, "", Check.by(1, 0, 0, 0, 2, 0), "p(f(A))|q(f(A),A)|r");
        check.step(desk, "", Check.by(1, 0, 2, 0, 0, 0), "q(f(A),A)|p(f(A))|r");
    }

    private static void otherClauseOfFactoring(Check check) {
        check.sentence("j is not looked at");
        ProofDesk desk = Check.deskWith("p(X)|p(a)", "#");
        for (int j : FAR) {
            check.step(desk, "", Check.by(1, 0, 0, j, 1, 0), "p(a)");
            check.step(desk, "", Check.by(1, 0, 1, 0, 0, j), "p(a)");
        }
        check.is("needs", desk.needs(5, 1), false);
    }

    private static void negationOfEquation(Check check) {
        check.sentence("REFLECTION: k is the negation of an equation");
        ProofDesk desk = Check.deskWith("~a=a", "a=a", "~p(a,a)", "p(a,a)", "q|~X=a");
        check.step(desk, "", Check.by(2, 0, 0, 0, 0, 0), "#");
        check.refused(desk, "", Check.by(2, 1, 0, 0, 0, 0), -5);
        check.refused(desk, "", Check.by(2, 2, 0, 0, 0, 0), -5);
        check.refused(desk, "", Check.by(2, 3, 0, 0, 0, 0), -5);
        check.refused(desk, "", Check.by(2, 4, 0, 0, 0, 0), -5);
        check.step(desk, "", Check.by(2, 4, 1, 0, 0, 0), "q");
        check.refused(desk, "", Check.by(2, 4, 2, 0, 0, 0), -4);
        check.refused(desk, "", Check.by(2, 4, -1, 0, 0, 0), -4);
    }

    private static void unifierOfSides(Check check) {
        check.sentence("with the most general unifier of its sides");
        ProofDesk desk = Check.deskWith("~f(X)=f(a)|p(X)", "~a=b|p(X)", "~f(X)=g(X)|p(X)", "~a=f(X)|p(X)",
                "~X=g(Y)|p(X)");
        check.step(desk, "", Check.by(2, 0, 0, 0, 0, 0), "p(a)");
        check.refused(desk, "", Check.by(2, 1, 0, 0, 0, 0), -6);
        check.refused(desk, "", Check.by(2, 2, 0, 0, 0, 0), -6);
        check.refused(desk, "", Check.by(2, 3, 0, 0, 0, 0), -6);
        check.step(desk, "", Check.by(2, 4, 0, 0, 0, 0), "p(g(A))");
    }

    private static void restOfReflection(Check check) {
        check.sentence("the literals of i but k");
        ProofDesk desk = Check.deskWith("p(X)|~X=Y|q(Y)|~Y=X");
        check.step(desk, "", Check.by(2, 0, 1, 0, 0, 0), "p(A)|q(A)|~A=A");
        check.step(desk, "", Check.by(2, 0, 3, 0, 0, 0), "p(A)|~A=A|q(A)");
    }

    private static void otherClauseOfReflection(Check check) {
        check.sentence("(j, l not looked at)");
        ProofDesk desk = Check.deskWith("~X=a|p(X)");
        for (int far : FAR) {
            check.step(desk, "", Check.by(2, 0, 0, far, 0, 0), "p(a)");
            check.step(desk, "", Check.by(2, 0, 0, 0, far, far), "p(a)");
        }
    }
}
