/** The edges that the document names for the use of the letters a .. z. */
final class EdgeUseTest {
    /** The letter x as a function and as a predicate, with 0 to 3 terms. */
    private static final String[] USES = {
        "x=A", "x(A)=A", "x(A,B)=A", "x(A,B,C)=A", "x", "x(A)", "x(A,B)", "x(A,B,C)",
    };
    private static final int[] SPECIALISE = Check.by(4, 0, 0, 0, 0, 0);

    public static void main(String[] args) {
        Check check = new Check();
        everyOtherClause(check);
        claims(check);
        oneText(check);
        insideTerms(check);
        everyLetter(check);
        refusedGivens(check);
        fullDesk(check);
        refusedClaims(check);
        rightClaims(check);
        variablesAreFree(check);
        check.end();
    }

    private static void everyOtherClause(Check check) {
        check.sentence("every other clause must use it so");
        for (String first : USES) {
            for (String second : USES) {
                boolean alike = first.equals(second);
                ProofDesk desk = Check.deskWith(first);
                check.given(desk, second, alike ? 1 : Check.ARGUMENT, alike ? 0 : -2);
                check.given(desk, first, alike ? 2 : 1);
            }
        }
    }

    private static void claims(Check check) {
        check.sentence("(and the claims below) must use it so");
        for (String first : USES) {
            for (String second : USES) {
                ProofDesk desk = Check.deskWith("#", first);
                if (first.equals(second)) {
                    check.step(desk, second, SPECIALISE, second);
                } else {
                    check.refused(desk, second, SPECIALISE, -2);
                }
            }
        }
        ProofDesk desk = Check.deskWith("p(a)", "~p(X)", "p(b)|p(Y)", "~a=X|p(X)", "a=b");
        check.refused(desk, "p", Check.by(0, 0, 0, 1, 0, 0), -2);
        check.refused(desk, "p", Check.by(1, 2, 0, 0, 1, 0), -2);
        check.refused(desk, "p", Check.by(2, 3, 0, 0, 0, 0), -2);
        check.refused(desk, "p", Check.by(3, 4, 0, 0, 0, 0), -2);
    }

    private static void oneText(Check check) {
        check.sentence("also in one text");
        for (String first : USES) {
            for (String second : USES) {
                if (first.equals(second)) {
                    check.readAs(first + "|~" + second, first + "|~" + second);
                } else {
                    check.unread(-2, first + "|" + second, second + "|q|~" + first);
                    check.refused(Check.deskWith("#"), first + "|" + second, SPECIALISE, -2);
                }
            }
        }
        check.unread(-2, "x(x)", "x(x(A),A)=A", "x(a,x)", "x=x(a)", "p(x)|x", "p(x,x(x))", "q|p(a)|p|q");
    }

    private static void insideTerms(Check check) {
        check.sentence("USED as a function or as a predicate, with so many terms");
        ProofDesk desk = Check.deskWith("~p(f(g(a,X)),X)|h(b)=X");
        for (String text : new String[] {"a", "b", "f(a)", "g(a,a)", "h(b)", "p(a)", "p(a,a,a)", "p", "p=X", "X=p(a,b)",
            "q(f)", "q(f(a,a))", "q(g)", "q(g(a))", "q(g(a,a,a))", "q(a(X))", "b(X)=X", "X=h", "h(a,a)=X"}) {
            check.given(desk, text, Check.ARGUMENT, -2);
        }
        check.given(desk, "p(h(b),g(f(a),b))|~f(a)=h(a)", 1);
    }

    private static void everyLetter(Check check) {
        check.sentence("A letter a .. z is USED");
        for (char c = 'a'; c <= 'z'; c++) {
            ProofDesk desk = Check.deskWith("" + c);
            check.given(desk, c + "=A", Check.ARGUMENT, -2);
            check.given(desk, "~" + c, 1);
        }
    }

    private static void refusedGivens(Check check) {
        check.sentence("as soon as a clause with it was added");
        ProofDesk desk = Check.deskWith("p(a)");
        check.given(desk, "x|y(a)|", Check.ARGUMENT, -1);
        check.given(desk, "x|y(a)|p", Check.ARGUMENT, -2);
        check.given(desk, "x|y(a)|x(a)", Check.ARGUMENT, -2);
        check.given(desk, "y|x(a)", 1);
        check.given(desk, "x|y(a)", Check.ARGUMENT, -2);
    }

    /** A clause that finds no room was not added, so its letters are still free. */
    private static void fullDesk(Check check) {
        ProofDesk desk = new ProofDesk();
        for (int number = 0; number < 30; number++) {
            check.given(desk, "#", number);
        }
        check.given(desk, "x", Check.STATE, -3);
        check.refused(desk, "x", SPECIALISE, -3);
        check.given(desk, "x(a)", Check.STATE, -3);
        check.given(desk, "a(x)", Check.STATE, -3);
    }

    private static void refusedClaims(Check check) {
        ProofDesk desk = Check.deskWith("p(a)|q", "~p(X)", "p(b)|r(a)|r(b)|r(c)", "~p(b)|r(d)|r(e)|r(f)|r(g)");
        check.refused(desk, "x(y)", Check.by(0, 0, 0, 9, 0, 0), -4);
        check.refused(desk, "x(y)|", Check.by(0, 0, 0, 1, 0, 0), -1);
        check.refused(desk, "x(y)|p", Check.by(0, 0, 0, 1, 0, 0), -2);
        check.refused(desk, "x(y)", Check.by(0, 0, 0, 0, 0, 0), -5);
        check.refused(desk, "x(y)", Check.by(0, 1, 0, 0, 1, 0), -6);
        check.refused(desk, "x(y)", Check.by(0, 2, 0, 3, 0, 0), -7);
        check.refused(desk, "x(y)", Check.by(0, 0, 0, 1, 0, 0), -8);
        check.refused(desk, "x(y)", SPECIALISE, -8);
        check.given(desk, "y(x)", 4);
    }

    private static void rightClaims(Check check) {
        ProofDesk desk = Check.deskWith("p(X)");
        check.step(desk, "p(y(A))|x", SPECIALISE, "p(y(A))|x");
        check.given(desk, "x(A)", Check.ARGUMENT, -2);
        check.given(desk, "p(x)", Check.ARGUMENT, -2);
        check.given(desk, "p(y)", Check.ARGUMENT, -2);
        check.given(desk, "y(A)", Check.ARGUMENT, -2);
        check.given(desk, "x|p(y(y(A)))", 2);
    }

    private static void variablesAreFree(Check check) {
        check.sentence("A letter a .. z is USED as a function or as a predicate");
        ProofDesk desk = Check.deskWith("p(A)|A=B", "q(B,A)|p(B)");
        check.given(desk, "p(Z)|Z=A|q(A,Z)", 2);
    }
}
