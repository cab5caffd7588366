/** The edges that the document names for rule 3. */
final class EdgeRewritingTest {
    public static void main(String[] args) {
        Check check = new Check();
        equation(check);
        places(check);
        placesOfEquations(check);
        noPlace(check);
        noVariable(check);
        firstSide(check);
        turnedRound(check);
        noHigherTurns(check);
        onlyThatPlace(check);
        restOfRewriting(check);
        variableSides(check);
        farPlaces(check);
        check.end();
    }

    private static int[] by(int i, int k, int j, int l, int p) {
        return Check.by(3, i, k, j, l, p);
    }

    private static void equation(Check check) {
        check.sentence("REWRITING: k is an equation");
        ProofDesk desk = Check.deskWith("a=b|~a=b|p(a,b)|~p(a,b)", "q(a)");
        check.step(desk, "", by(0, 0, 1, 0, 0), "~a=b|p(a,b)|~p(a,b)|q(b)");
        check.refused(desk, "", by(0, 1, 1, 0, 0), -5);
        check.refused(desk, "", by(0, 2, 1, 0, 0), -5);
        check.refused(desk, "", by(0, 3, 1, 0, 0), -5);
        check.refused(desk, "", by(0, 4, 1, 0, 0), -4);
        check.refused(desk, "", by(0, -1, 1, 0, 0), -4);
        check.refused(desk, "", by(0, 0, 1, 1, 0), -4);
        check.refused(desk, "", by(0, 0, 1, -1, 0), -4);
        check.refused(desk, "", by(0, 0, 3, 0, 0), -4);
        check.refused(desk, "", by(3, 0, 1, 0, 0), -4);
    }

    /** A variable takes every term, so that what is rewritten shows which term is at a place. */
    private static void places(Check check) {
        check.sentence("the terms in it (all, each before those in it, from the left; 0 the first one) are counted");
        ProofDesk desk = Check.deskWith("X=e", "~p(f(g(a,b)),c,f(d))");
        String[] made = {"~p(e,c,f(d))", "~p(f(e),c,f(d))", "~p(f(g(e,b)),c,f(d))", "~p(f(g(a,e)),c,f(d))",
            "~p(f(g(a,b)),e,f(d))", "~p(f(g(a,b)),c,e)", "~p(f(g(a,b)),c,f(e))"};
        for (int place = 0; place < made.length; place++) {
            check.step(desk, "", by(0, 0, 1, 0, place), made[place]);
        }
        check.refused(desk, "", by(0, 0, 1, 0, made.length), -4);
        check.refused(desk, "", by(0, 0, 1, 0, -1), -4);
    }

    private static void placesOfEquations(Check check) {
        ProofDesk desk = Check.deskWith("X=e", "q|~f(a)=g(b,c)|d=d");
        String[] made = {"q|~e=g(b,c)|d=d", "q|~f(e)=g(b,c)|d=d", "q|~f(a)=e|d=d", "q|~f(a)=g(e,c)|d=d",
            "q|~f(a)=g(b,e)|d=d"};
        for (int place = 0; place < made.length; place++) {
            check.step(desk, "", by(0, 0, 1, 1, place), made[place]);
        }
        check.refused(desk, "", by(0, 0, 1, 1, made.length), -4);
        check.step(desk, "", by(0, 0, 1, 2, 0), "q|~f(a)=g(b,c)|e=d");
        check.step(desk, "", by(0, 0, 1, 2, 1), "q|~f(a)=g(b,c)|d=e");
        check.refused(desk, "", by(0, 0, 1, 2, 2), -4);
    }

    private static void noPlace(Check check) {
        ProofDesk desk = Check.deskWith("X=e", "q", "p(a)", "#");
        check.refused(desk, "", by(0, 0, 1, 0, 0), -4);
        check.refused(desk, "", by(0, 0, 1, 0, 100), -4);
        check.refused(desk, "", by(0, 0, 3, 0, 0), -4);
        check.step(desk, "", by(0, 0, 2, 0, 0), "p(e)");
        for (int p : new int[] {Integer.MIN_VALUE, -101, -100, -99, -1, 1, 2, 50, 98, 99}) {
            check.refused(desk, "", by(0, 0, 2, 0, p), -4);
        }
    }

    private static void noVariable(Check check) {
        check.sentence("the term at that place, which is no variable");
        ProofDesk desk = Check.deskWith("X=e", "p(X,f(Y),c)|Z=d");
        check.refused(desk, "", by(0, 0, 1, 0, 0), -4);
        check.step(desk, "", by(0, 0, 1, 0, 1), "p(A,e,c)|B=d");
        check.refused(desk, "", by(0, 0, 1, 0, 2), -4);
        check.step(desk, "", by(0, 0, 1, 0, 3), "p(A,f(B),e)|C=d");
        check.refused(desk, "", by(0, 0, 1, 1, 0), -4);
        check.refused(desk, "", by(0, 0, 1, 1, 100), -4);
        check.step(desk, "", by(0, 0, 1, 1, 1), "p(A,f(B),c)|C=e");
        check.refused(desk, "p(", by(0, 0, 1, 0, 0), -4);
    }

    private static void firstSide(Check check) {
        check.sentence("the most general unifier of the first side of k and the term at that place");
        ProofDesk desk = Check.deskWith("f(X,a)=g(X)", "p(f(b,Y))|q(Y)", "p(f(b,b))", "p(g(b))");
        check.step(desk, "", by(0, 0, 1, 0, 0), "p(g(b))|q(a)");
        check.refused(desk, "", by(0, 0, 2, 0, 0), -6);
        check.refused(desk, "", by(0, 0, 2, 0, 1), -6);
        check.refused(desk, "", by(0, 0, 3, 0, 0), -6);
    }

    private static void turnedRound(Check check) {
        check.sentence("When p is 100 or more, p - 100 is the place, and the sides of k are the other way round");
        ProofDesk desk = Check.deskWith("a=b", "p(a,b,f(a,b))");
        String[] made = {"p(b,b,f(a,b))", "p(a,a,f(a,b))", "", "p(a,b,f(b,b))", "p(a,b,f(a,a))"};
        int[] forward = {0, -6, -6, 0, -6};
        int[] turned = {-6, 0, -6, -6, 0};
        for (int place = 0; place < made.length; place++) {
            tryPlace(check, desk, place, forward[place], made[place]);
            tryPlace(check, desk, 100 + place, turned[place], made[place]);
        }
        check.refused(desk, "", by(0, 0, 1, 0, 99), -4);
        check.refused(desk, "", by(0, 0, 1, 0, 5), -4);
        check.refused(desk, "", by(0, 0, 1, 0, 105), -4);
    }

    private static void tryPlace(Check check, ProofDesk desk, int p, int fault, String made) {
        if (fault == 0) {
            check.step(desk, "", by(0, 0, 1, 0, p), made);
        } else {
            check.refused(desk, "", by(0, 0, 1, 0, p), fault);
        }
    }

    /** The sides turn once: nothing begins anew at 200, nor below 0, nor where an int ends. */
    private static void noHigherTurns(Check check) {
        ProofDesk desk = Check.deskWith("a=a", "p(a)");
        check.step(desk, "", by(0, 0, 1, 0, 0), "p(a)");
        check.step(desk, "", by(0, 0, 1, 0, 100), "p(a)");
        for (int p : new int[] {101, 199, 200, 201, 256, 300, 356, 1000, 1100, Integer.MAX_VALUE, Integer.MAX_VALUE - 99,
            Integer.MIN_VALUE, Integer.MIN_VALUE + 100, -1, -100, -200}) {
            check.refused(desk, "", by(0, 0, 1, 0, p), -4);
        }
    }

    private static void onlyThatPlace(Check check) {
        check.sentence("those of j with the other side of k in that place");
        ProofDesk desk = Check.deskWith("a=b", "p(a,a)|q(a)|p(a,c)");
        check.step(desk, "", by(0, 0, 1, 0, 0), "p(b,a)|q(a)|p(a,c)");
        check.step(desk, "", by(0, 0, 1, 0, 1), "p(a,b)|q(a)|p(a,c)");
        check.step(desk, "", by(0, 0, 1, 1, 0), "p(a,a)|q(b)|p(a,c)");
        check.step(desk, "", by(0, 0, 1, 2, 0), "p(a,a)|q(a)|p(b,c)");
    }

    private static void restOfRewriting(Check check) {
        check.sentence("the literals of i but k, then those of j");
        ProofDesk desk = Check.deskWith("r(X)|f(X)=X|s(X)", "t(Y)|p(f(Y))|u(Y)", "f(X)=b|p(X)");
        check.step(desk, "", by(0, 1, 1, 1, 0), "r(A)|s(A)|t(A)|p(A)|u(A)");
        check.step(desk, "", by(2, 0, 2, 0, 0), "p(A)|b=b");
    }

    private static void variableSides(Check check) {
        ProofDesk desk = Check.deskWith("X=Y", "p(a,f(b))", "X=X");
        check.step(desk, "", by(0, 0, 1, 0, 0), "p(A,f(b))");
        check.step(desk, "", by(0, 0, 1, 0, 1), "p(a,A)");
        check.step(desk, "", by(0, 0, 1, 0, 102), "p(a,f(A))");
        check.step(desk, "", by(2, 0, 1, 0, 101), "p(a,f(b))");
        check.refused(desk, "", by(0, 0, 0, 0, 0), -4);
        check.refused(desk, "", by(0, 0, 0, 0, 101), -4);
    }

    /** A clause of size 40 has one atom with 39 terms, the last of which is place 38. */
    private static void farPlaces(Check check) {
        String thirteen = "h(h(h(h(a,b,c),b,c),b,c),b,c)";
        ProofDesk desk = Check.deskWith("~X=" + thirteen + "|q(X,X,X)", "c=d", "d=c");
        String forty = "q(" + thirteen + "," + thirteen + "," + thirteen + ")";
        check.step(desk, "", Check.by(2, 0, 0, 0, 0, 0), forty);
        String last = forty.substring(0, forty.length() - 3) + "d))";
        check.step(desk, "", by(1, 0, 3, 0, 38), last);
        check.step(desk, "", by(2, 0, 3, 0, 138), last);
        check.refused(desk, "", by(1, 0, 3, 0, 39), -4);
        check.refused(desk, "", by(2, 0, 3, 0, 139), -4);
        check.refused(desk, "", by(1, 0, 3, 0, 37), -6);
    }
}
