/** The edges of promise 3. */
final class EdgeGivenTest {
    public static void main(String[] args) {
        Check check = new Check();
        number(check);
        variables(check);
        manyVariables(check);
        unread(check);
        whenThereAreThirty(check);
        unreadWhenThereAreThirty(check);
        refusedAddsNothing(check);
        check.end();
    }

    private static void number(Check check) {
        check.sentence("The draft, a clause, is added as given: its number");
        ProofDesk desk = new ProofDesk();
        String[] texts = {"#", "p(X)", "p(X)", "~p(a)|q"};
        String[] due = {"#", "p(A)", "p(A)", "~p(a)|q"};
        for (int number = 0; number < texts.length; number++) {
            check.given(desk, texts[number], number);
            check.is("text", Check.text(desk, number), due[number]);
            check.is("clauses", desk.clauses(), number + 1);
        }
    }

    private static void variables(Check check) {
        check.sentence("with its variables called A, B, .. in the order in which they come first");
        check.readAs("p(Z)", "p(A)");
        check.readAs("p(B,A)", "p(A,B)");
        check.readAs("p(A,C,B)", "p(A,B,C)");
        check.readAs("Z=Y|p(Y,X,Z)", "A=B|p(B,C,A)");
        check.readAs("p(f(B),A)|q(C,f(A),B)", "p(f(A),B)|q(C,f(B),A)");
        check.readAs("p(A)|p(B)", "p(A)|p(B)");
        check.readAs("p(B)|p(A)|p(B)", "p(A)|p(B)");
    }

    /** No more than these 20 variables fit into one draft. */
    private static void manyVariables(Check check) {
        check.readAs("p(h(Z,Y,X),W,V)|p(U,T,S)|p(R,Q,P)|p(O,N,M)|p(L,K,J)|p(I,H,G)",
                "p(h(A,B,C),D,E)|p(F,G,H)|p(I,J,K)|p(L,M,N)|p(O,P,Q)|p(R,S,T)");
        check.readAs("p(h(B,C,D),E,F)|p(G,H,I)|p(J,K,L)|p(M,N,O)|p(P,Q,R)|p(S,T,A)",
                "p(h(A,B,C),D,E)|p(F,G,H)|p(I,J,K)|p(L,M,N)|p(O,P,Q)|p(R,S,T)");
    }

    private static void unread(Check check) {
        check.sentence("IllegalArgumentException when it can't be read (SYNTAX or USE: see fault)");
        ProofDesk desk = Check.deskWith("p(X)");
        check.given(desk, "", Check.ARGUMENT, -1);
        check.given(desk, "p(X", Check.ARGUMENT, -1);
        check.given(desk, "p", Check.ARGUMENT, -2);
        check.given(desk, "q|q(a)", Check.ARGUMENT, -2);
        check.given(desk, "p(a)", 1, 0);
    }

    private static void whenThereAreThirty(Check check) {
        check.sentence("IllegalStateException when there are 30");
        ProofDesk desk = full(29);
        check.given(desk, "p(Z)", 29, 0);
        check.given(desk, "p(Z)", Check.STATE, -3);
        check.given(desk, "#", Check.STATE, -3);
        check.is("clauses", desk.clauses(), 30);
        check.is("the last text", Check.text(desk, 29), "p(A)");
    }

    /** The document names what can't be read before what finds no room. */
    private static void unreadWhenThereAreThirty(Check check) {
        ProofDesk desk = full(30);
        check.given(desk, "p(Z", Check.ARGUMENT, -1);
        check.given(desk, "", Check.ARGUMENT, -1);
        check.given(desk, "p", Check.ARGUMENT, -2);
        check.given(desk, "p(a)", Check.STATE, -3);
    }

    private static ProofDesk full(int many) {
        ProofDesk desk = new ProofDesk();
        for (int number = 0; number < many; number++) {
            Check.write(desk, "p(X)");
            desk.given();
        }
        return desk;
    }

    private static void refusedAddsNothing(Check check) {
        check.sentence("The draft, a clause, is added");
        ProofDesk desk = Check.deskWith("p(X)");
        for (String text : new String[] {"", "p", "p(a)|", "#|p(a)"}) {
            check.given(desk, text, Check.ARGUMENT, text.equals("p") ? -2 : -1);
            check.is("clauses after " + text, desk.clauses(), 1);
            check.is("literals after " + text, desk.literals(1), -1);
        }
        check.is("refuted", desk.refuted(), -1);
    }
}
