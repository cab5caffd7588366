/** The edges that the document names for the draft and its reading. */
final class EdgeDraftTest {
    private static final int[] SPECIALISE = Check.by(4, 0, 0, 0, 0, 0);
    private static final int[] RESOLVE = Check.by(0, 0, 0, 1, 0, 0);
    /** 60 characters; no clause that can be written with so many has a greater size than its 33. */
    private static final String SIXTY = "~h(h(h(h(h(A,B,C),B,C),B,C),B,C),B,C)=A|~A=B|B=A|A=C|C=A|B=C";

    public static void main(String[] args) {
        Check check = new Check();
        atMostSixty(check);
        takenByGiven(check);
        takenByStep(check);
        readAlone(check);
        syntax(check);
        use(check);
        syntaxOrUse(check);
        countsOnce(check);
        whereItStandsFirst(check);
        moreThanSix(check);
        greatSize(check);
        check.end();
    }

    private static void atMostSixty(Check check) {
        check.sentence("THE DRAFT has at most 60 characters");
        ProofDesk desk = new ProofDesk();
        for (int at = 0; at < 60; at++) {
            check.is("write " + at, desk.write(SIXTY.charAt(at)), true);
        }
        check.is("draft", desk.draft(), 60);
        check.is("the 61st", desk.write('q'), false);
        check.is("draft still", desk.draft(), 60);
        check.is("given", Check.given(desk), 0);
        check.is("text", Check.text(desk, 0), SIXTY);
        Check.write(desk, SIXTY + "|q|r");
        check.is("claim of the first 60", Check.step(desk, SPECIALISE), 1);
        check.is("text of the claim", Check.text(desk, 1), SIXTY);
        check.read("f(".repeat(19) + "a" + ")".repeat(19) + "=b", "p(" + "f(".repeat(18) + "a" + ")".repeat(19) + "|q");
    }

    private static void takenByGiven(Check check) {
        check.sentence("given and step take it (it is empty then, whatever they answer)");
        ProofDesk desk = new ProofDesk();
        check.given(desk, "p(", Check.ARGUMENT, -1);
        check.given(desk, "p|p(a)", Check.ARGUMENT, -2);
        check.given(desk, "p", 0, 0);
        check.given(desk, "", Check.ARGUMENT, -1);
        for (int number = 1; number < 30; number++) {
            check.given(desk, "p|q", number);
        }
        check.given(desk, "p", Check.STATE, -3);
        check.given(desk, "", Check.ARGUMENT, -1);
    }

    private static void takenByStep(Check check) {
        ProofDesk desk = Check.deskWith("p(a)|q", "~p(X)", "p(b)|r(a)|r(b)|r(c)", "~p(b)|r(d)|r(e)|r(f)|r(g)");
        check.refused(desk, "q", Check.by(0, 9, 0, 1, 0, 0), -4);
        check.refused(desk, "q(", RESOLVE, -1);
        check.refused(desk, "q(a)", RESOLVE, -2);
        check.refused(desk, "q", Check.by(0, 0, 0, 0, 0, 0), -5);
        check.refused(desk, "q", Check.by(0, 1, 0, 0, 1, 0), -6);
        check.refused(desk, "q", Check.by(0, 2, 0, 3, 0, 0), -7);
        check.refused(desk, "~q", RESOLVE, -8);
        check.step(desk, "q", RESOLVE, "q");
        for (int number = 5; number < 30; number++) {
            check.step(desk, "", RESOLVE, "q");
        }
        check.refused(desk, "q", RESOLVE, -3);
    }

    /** What was taken does not come back before or behind the next text. */
    private static void readAlone(Check check) {
        ProofDesk desk = new ProofDesk();
        check.given(desk, "p(X)|q(X,Y)|", Check.ARGUMENT, -1);
        check.given(desk, "r", 0);
        check.is("text", Check.text(desk, 0), "r");
        check.refused(desk, "r|s|t", Check.by(9, 0, 0, 0, 0, 0), -4);
        check.step(desk, "r", SPECIALISE, "r");
        check.refused(desk, "", SPECIALISE, -4);
    }

    private static void syntax(Check check) {
        check.sentence("fails with SYNTAX (-1) when it is none");
        check.unread(-1, "", " ", "p ", "p(", "X", "~", "|", "p|", "=", "##");
        ProofDesk desk = Check.deskWith("#");
        for (String claim : new String[] {" ", "p ", "p(", "X", "~", "|", "p|", "=", "##", "p|q|r|s|t|u|v"}) {
            check.refused(desk, claim, SPECIALISE, -1);
        }
    }

    private static void use(Check check) {
        check.sentence("with USE (-2) when a letter is not used as it was (or twice unlike)");
        ProofDesk desk = Check.deskWith("p(a)");
        check.given(desk, "p", Check.ARGUMENT, -2);
        check.given(desk, "q|q(a)", Check.ARGUMENT, -2);
        check.refused(desk, "p", SPECIALISE, -2);
        check.refused(desk, "p(a)|q|q(a)", SPECIALISE, -2);
    }

    /** A text that is no clause has no letters in use, so it is SYNTAX whatever its letters are. */
    private static void syntaxOrUse(Check check) {
        check.unread(-1, "p(p", "p|p(a)|", "p(p) ", "p|p(a)|X", "p|p(a)|p(b)|p(c)|p(d)|p(e)|p(f)");
        ProofDesk desk = Check.deskWith("p(a)");
        check.given(desk, "p|", Check.ARGUMENT, -1);
        check.given(desk, "a|p|p(p)|~p|~a|q|r", Check.ARGUMENT, -1);
        check.refused(desk, "p|", SPECIALISE, -1);
    }

    private static void countsOnce(Check check) {
        check.sentence("the same literal may be written more than once, and counts once");
        String[] texts = {"p|p", "~p|~p|~p", "a=b|a=b", "p(X,f(Y))|p(X,f(Y))", "q|p(X)|q|p(X)|q"};
        int[] literals = {1, 1, 1, 1, 2};
        int[] sizes = {1, 1, 3, 4, 3};
        for (int text = 0; text < texts.length; text++) {
            ProofDesk desk = Check.deskWith(texts[text]);
            check.is("literals of " + texts[text], desk.literals(0), literals[text]);
            check.is("size of " + texts[text], desk.size(0), sizes[text]);
        }
        check.is("another sign", Check.deskWith("p|~p|p|~p").literals(0), 2);
        check.is("another variable", Check.deskWith("p(X)|p(Y)|p(X)|p(Y)").literals(0), 2);
        check.is("other sides", Check.deskWith("X=Y|Y=X|X=Y|Y=X").literals(0), 2);
        ProofDesk desk = Check.deskWith("p(X)|q", "~p(a)");
        check.step(desk, "q|q|q", RESOLVE, "q");
        check.step(desk, "q|p(b)|q|p(b)", SPECIALISE, "q|p(b)");
    }

    private static void whereItStandsFirst(Check check) {
        check.sentence("where it stands first");
        check.readAs("p|q|p", "p|q");
        check.readAs("q|p|p|q", "q|p");
        check.readAs("r|p|q|p|r|q", "r|p|q");
        check.readAs("p(Y)|p(X)|p(Y)|q(X,Y)", "p(A)|p(B)|q(B,A)");
        check.readAs("~a=Y|X=Y|~a=Y|p(X)|X=Y", "~a=A|B=A|p(B)");
    }

    private static void moreThanSix(Check check) {
        check.sentence("more than 6 literals (then)");
        check.readAs("p|q|r|s|t|u", "p|q|r|s|t|u");
        check.readAs("p|q|r|s|t|u|p", "p|q|r|s|t|u");
        check.readAs("p|q|r|s|t|u|u|t|s|r|q|p", "p|q|r|s|t|u");
        check.readAs("p|p|q|q|r|r|s|s|t|t|u|u", "p|q|r|s|t|u");
        check.readAs("p" + "|p".repeat(29), "p");
        check.unread(-1, "p|q|r|s|t|u|~p", "p|p|q|r|s|t|u|v", "p|q|r|s|t|u|p|v", "p|q|r|s|t|u|v|v");
        ProofDesk desk = Check.deskWith("#");
        check.step(desk, "p|q|r|s|t|u|u", SPECIALISE, "p|q|r|s|t|u");
        check.refused(desk, "p|q|r|s|t|u|v", SPECIALISE, -1);
    }

    /** No clause of a size above 40 fits into 60 characters; what is written more often must not seem to be one. */
    private static void greatSize(Check check) {
        check.sentence("or a size above 40 are SYNTAX, too");
        check.is("size", Check.deskWith(SIXTY).size(0), 33);
        String equation = "a=b" + "|a=b".repeat(14);
        check.readAs(equation, "a=b");
        check.is("size", Check.deskWith(equation).size(0), 3);
        check.is("size", Check.deskWith("a=b|b=a|" + "a=b|".repeat(12) + "b=a").size(0), 6);
    }
}
