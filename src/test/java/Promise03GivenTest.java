/** Promise 3: the draft is added as a given clause, or it is told why it can't be read. */
final class Promise03GivenTest {
    private static final String[][] CLAUSES = {
        {"#", "#"}, {"p", "p"}, {"~p", "~p"}, {"p(X)", "p(A)"}, {"p(a,b,c)", "p(a,b,c)"},
        {"X=Y", "A=B"}, {"~X=Y", "~A=B"}, {"a=b", "a=b"}, {"f(X)=g(Y,X)", "f(A)=g(B,A)"},
        {"p(Z,Y)|~q(Y,Z)|X=Z", "p(A,B)|~q(B,A)|C=A"}, {"B=A", "A=B"},
        {"p(f(g(X,Y,Z)),Z)", "p(f(g(A,B,C)),C)"}, {"p|q|p", "p|q"}, {"p|~p|p|~p", "p|~p"},
        {"q(X)|q(X)", "q(A)"}, {"q(X)|q(Y)|q(X)", "q(A)|q(B)"}, {"a=b|b=a|a=b", "a=b|b=a"},
        {"p|q|r|s|t|u", "p|q|r|s|t|u"}, {"p|q|r|p|s|t|u|u|p", "p|q|r|s|t|u"},
        {"a=b|a=b|a=b|a=b|a=b|a=b|a=b|a=b|a=b|a=b|a=b|a=b|a=b|a=b|a=b", "a=b"},
        {"p(A,B,C)|p(D,E,F)|p(G,H,I)|p(J,K,L)|p(M,N,O)|p(P,Q,R)",
            "p(A,B,C)|p(D,E,F)|p(G,H,I)|p(J,K,L)|p(M,N,O)|p(P,Q,R)"},
        {"Z=Y|X=W|V=U|T=S|R=Q|P=O", "A=B|C=D|E=F|G=H|I=J|K=L"},
        {"p(f(f(f(f(f(f(f(f(f(f(f(f(f(f(f(f(f(f(a)))))))))))))))))))",
            "p(f(f(f(f(f(f(f(f(f(f(f(f(f(f(f(f(f(f(a)))))))))))))))))))"},
    };
    private static final String[] NONE = {
        "", " ", "p ", " p", "p | q", "##", "#|p", "p|#", "~#", "p|", "|p", "p||q", "|", "~", "~~p", "p~", "~|p",
        "X", "~X", "X(a)", "X(a)=b", "p()", "p(", "p)", "p(a", "p(a))", "(p)", "p(,)", "p(a,)", "p(,a)", "p(a,,b)",
        "p(a,b,c,d)", "p(f(A,B,C,D))", "f(A,B,C,D)=a", "=", "a=", "=a", "a==b", "a=b=c", "a=b=", "a~=b", "a=~b",
        "p(a=b)", "p(~a)", "p(a|b)", "p(#)", "pq", "p(a)b", "p(a)(b)", "p1", "1", "p,q", "p&q", "p(a)q(b)", "(a=b)",
        "p|q|r|s|t|u|v", "p|q|r|s|t|u|~p",
        "p(a)|p(b)|p(c)|p(d)|p(e)|p(f)|p(g)",
        "f(f(f(f(f(f(f(f(f(f(f(f(f(f(f(f(f(f(f(f(f(f(f(f(f(f(f(f(f(f(",
        "p(f(f(f(f(f(f(f(f(f(f(f(f(f(f(f(f(f(f(a))))))))))))))))))",
        "A=B|C=D|E=F|G=H|I=J|K=L|M=N", "@", "[", "`", "{", "p_",
    };
    private static final String[] UNLIKE_IN_ONE = {
        "p(p)", "p(a)|p", "p|p(a)", "p|p=a", "p=a|p", "a=b|a", "f(f)=a", "f(a)=f(a,b)", "p(f)|q(f(a))", "q(a)|~q(a,a)",
        "p(a(b),a)", "p(X)|p(X,X)", "a(a)=b", "a|b|c|d|e|f(a)",
    };

    public static void main(String[] args) {
        Check check = new Check();
        for (String[] pair : CLAUSES) {
            ProofDesk desk = new ProofDesk();
            check.given(desk, pair[0], 0);
            check.is("text of " + pair[0], Check.text(desk, 0), pair[1]);
            check.is("clauses after " + pair[0], desk.clauses(), 1);
        }
        for (String text : NONE) {
            refused(check, text, -1);
        }
        for (String text : UNLIKE_IN_ONE) {
            refused(check, text, -2);
        }
        syntaxBeforeUse(check);
        lettersUsed(check);
        numbersAndRoom(check);
        check.end();
    }

    private static void refused(Check check, String text, int fault) {
        ProofDesk desk = new ProofDesk();
        check.given(desk, text, Check.ARGUMENT, fault);
        check.is("clauses after " + text, desk.clauses(), 0);
        check.given(desk, "q(c)|p(A,B,C)", 0);
    }

    private static void syntaxBeforeUse(Check check) {
        for (String text : new String[] {"p|p(a)|", "p(p", "p|p(a)|p(b)|p(c)|p(d)|p(e)|p(f)", "p(p)|X", "p(p) "}) {
            check.given(new ProofDesk(), text, Check.ARGUMENT, -1);
        }
    }

    private static void lettersUsed(Check check) {
        ProofDesk desk = Check.deskWith("p(x)|f(x,Y)=Y");
        for (String text : new String[] {"p", "p(x,x)", "q(p)", "q(p(x))", "p=x", "x", "x(x)=f(x,x)", "f(x)=x", "f",
            "f(x,x)", "f(x,x,x)=x", "~p", "q|p", "q(f)", "z=x(z)"}) {
            check.given(desk, text, Check.ARGUMENT, -2);
        }
        check.given(desk, "p(f(x,x))|x=x|q|z=x", 1);
        check.given(desk, "q(z)", Check.ARGUMENT, -2);
        check.given(desk, "z", Check.ARGUMENT, -2);
        check.given(desk, "w(v)|w", Check.ARGUMENT, -2);
        check.given(desk, "w(v)|", Check.ARGUMENT, -1);
        check.given(desk, "v(w)", 2);
        check.given(desk, "#", 3);
    }

    private static void numbersAndRoom(Check check) {
        ProofDesk desk = new ProofDesk();
        for (int number = 0; number < 30; number++) {
            check.given(desk, number % 2 == 0 ? "p(X)" : "#", number);
        }
        check.given(desk, "p(X)", Check.STATE, -3);
        check.given(desk, "#", Check.STATE, -3);
        check.given(desk, "p(X", Check.ARGUMENT, -1);
        check.given(desk, "", Check.ARGUMENT, -1);
        check.given(desk, "p", Check.ARGUMENT, -2);
        check.is("clauses", desk.clauses(), 30);
        check.is("the last one", Check.text(desk, 29), "#");
        check.is("one too many", Check.text(desk, 30), "");
    }
}
