/** The edges that the document names for terms, atoms, literals, clauses and their texts. */
final class EdgeTextTest {
    public static void main(String[] args) {
        Check check = new Check();
        variables(check);
        functions(check);
        termsOfFunctions(check);
        predicates(check);
        termsOfPredicates(check);
        equations(check);
        literals(check);
        numberOfLiterals(check);
        orderOfLiterals(check);
        noTwoTheSame(check);
        size(check);
        greatestSize(check);
        writtenTerms(check);
        writtenAtoms(check);
        writtenLiterals(check);
        writtenClauses(check);
        emptyClause(check);
        nothingElse(check);
        check.end();
    }

    private static void variables(Check check) {
        check.sentence("A TERM is a VARIABLE, A .. Z");
        for (char c = 'A'; c <= 'Z'; c++) {
            check.readAs("p(" + c + ")", "p(A)");
            check.readAs("a=" + c, "a=A");
        }
        check.unread(-1, "p(@)", "p([)", "@=a", "[=a");
        check.unread(-1, "p(X(a))", "p(X())", "X(a)=b", "p(XY)");
    }

    private static void functions(Check check) {
        check.sentence("or a FUNCTION a .. z");
        for (char c = 'a'; c <= 'z'; c++) {
            check.read(c + "=A", "A=" + c + "(A,B,C)", (c == 'p' ? "q" : "p") + "(" + c + "(A))");
        }
        check.unread(-1, "p(`)", "p({)", "`=A", "{=A", "p({(a))");
    }

    private static void termsOfFunctions(Check check) {
        check.sentence("with 0 to 3 terms");
        check.read("p(f)", "p(f(A))", "p(f(A,B))", "p(f(A,B,C))", "f=a", "f(a,a,a)=f(a,a,a)");
        check.unread(-1, "p(f())", "p(f(A,B,C,D))", "f()=a", "a=f()", "f(A,B,C,D)=a", "p(f(A,B,C,D,E))");
        check.read("p(f(f(f(A,B,C),B,C),B,C))", "p(a,b,f(A,B,f(A,B,C)))");
        check.unread(-1, "p(f(f(A,B,C,D),B,C))", "p(a,b,f(A,B,f(A,B,C,D)))", "p(f(A,f(),A))");
    }

    private static void predicates(Check check) {
        check.sentence("An ATOM is a PREDICATE a .. z");
        for (char c = 'a'; c <= 'z'; c++) {
            check.read("" + c, c + "(A)", "~" + c + "(A,B,C)");
        }
        check.unread(-1, "`", "{", "`(a)", "{(a)", "A", "Z", "P(a)", "Z(a)", "~A");
    }

    private static void termsOfPredicates(Check check) {
        check.sentence("a PREDICATE a .. z with 0 to 3 terms");
        check.read("p", "p(A)", "p(A,B)", "p(A,B,C)");
        check.unread(-1, "p()", "p(A,B,C,D)", "p(A,B,C,D,E)", "q|p(a,b,c,d)", "~p()");
    }

    private static void equations(Check check) {
        check.sentence("or an EQUATION of two terms");
        check.read("a=b", "A=B", "A=A", "a=A", "f(A)=g(B,A)");
        check.unread(-1, "=", "a=", "=a", "a=b=", "=a=b", "a=b=c", "a==b", "a=b|=", "q|a=");
    }

    private static void literals(Check check) {
        check.sentence("A LITERAL is an atom or its negation");
        check.read("p", "~p", "p(a)", "~p(a)", "a=b", "~a=b");
        check.unread(-1, "~~p", "~~a=b", "~", "p|~", "~|p", "~#", "p(~a)", "~a=~b", "a=~b");
    }

    private static void numberOfLiterals(Check check) {
        check.sentence("A CLAUSE has 0 to 6 literals");
        String[] texts = {"#", "p", "p|q", "p|q|r", "p|q|r|s", "p|q|r|s|t", "p|q|r|s|t|u"};
        for (int many = 0; many < texts.length; many++) {
            check.read(texts[many]);
            check.is("literals of " + texts[many], Check.deskWith(texts[many]).literals(0), many);
        }
        check.unread(-1, "p|q|r|s|t|u|v", "p|~p|q|~q|r|~r|s", "A=B|C=D|E=F|G=H|I=J|K=L|M=N", "p|q|r|s|t|u|v|w|x|y|z");
    }

    private static void orderOfLiterals(Check check) {
        check.sentence("literals, in their order");
        check.read("p|q|r", "r|q|p", "q|~p|p", "~p|q|p", "u|t|s|r|q|p", "b=a|a=b");
    }

    private static void noTwoTheSame(Check check) {
        check.sentence("no two the same");
        check.readAs("p|p", "p");
        check.readAs("~a=X|p(X)|~a=X", "~a=A|p(A)");
        check.read("p|~p", "p(A)|p(B)", "p(A,B)|p(B,A)", "a=b|b=a", "A=B|B=A", "p(a)|p(A)", "p(f(A))|p(f(f(A)))");
    }

    private static void size(Check check) {
        check.sentence("Its SIZE is the number of all letters and signs of equality in it");
        String[] texts = {"#", "p", "~p", "p(A)", "~p(A,b,f(C))", "A=B", "~A=B", "p|q", "f(A)=f(A)", "p|~p|q(a)|a=a"};
        int[] due = {0, 1, 1, 2, 5, 3, 3, 2, 5, 7};
        for (int text = 0; text < texts.length; text++) {
            check.is("size of " + texts[text], Check.deskWith(texts[text]).size(0), due[text]);
        }
    }

    private static void greatestSize(Check check) {
        check.sentence("it is at most 40");
        String thirteen = "h(h(h(h(a,b,c),b,c),b,c),b,c)";
        ProofDesk desk = Check.deskWith("~X=" + thirteen + "|q(X,X,X)", "~X=" + thirteen + "|q(X,X,X)|r");
        String forty = "q(" + thirteen + "," + thirteen + "," + thirteen + ")";
        check.step(desk, "", Check.by(2, 0, 0, 0, 0, 0), forty);
        check.is("size", desk.size(2), 40);
        check.refused(desk, "", Check.by(2, 1, 0, 0, 0, 0), -7);
    }

    private static void writtenTerms(Check check) {
        check.sentence("for a function with terms these in ( ) with commas between");
        check.read("p(f(A,b,g(c)))", "f(f(f(a)))=a");
        check.unread(-1, "p(f(A b))", "p(f(A,))", "p(f(,A))", "p(f(A,,B))", "p(f(A)", "p(f(A", "p(f(", "p(f", "p(f)A)",
                "p(fA)", "p((A))", "p(f[A])", "p(f(A);g)", "p(f(A))(B)", "f(A)(B)=a", "p(f(,))");
    }

    private static void writtenAtoms(Check check) {
        check.sentence("An atom is written as its letter with terms likewise, or as a term, =, a term");
        check.read("p(A,b,c)", "p(f(A,B))", "f(A)=b", "A=f(b)");
        check.unread(-1, "p(", "p)", "p(A", "p(A,", "p(A,)", "p(,A)", "p(A,,B)", "p(A))", "(p)", "pA", "pq", "p(a=b)",
                "(a=b)", "=(a,b)", "a=(b)", "p(A)q");
    }

    private static void writtenLiterals(Check check) {
        check.sentence("A literal is an atom, or ~ and an atom");
        check.read("~p", "~p(A)", "~a=b", "~A=B");
        check.unread(-1, "p~", "~(p)", "-p", "!p", "p(a)~", "a~=b", "a=b~");
    }

    private static void writtenClauses(Check check) {
        check.sentence("A clause is literals with | between");
        check.read("p|q", "~p|~q", "a=b|p|~b=a");
        check.unread(-1, "|", "p|", "|p", "p||q", "p|q|", "pq", "p,q", "p||", "~p~q", "a=b b=a", "p&q", "p(a|b)");
    }

    private static void emptyClause(Check check) {
        check.sentence("the one without any is the text #");
        check.read("#");
        check.unread(-1, "", "##", "#|#", "#|p", "p|#", "~#", "#=#", "p(#)", "# ");
    }

    /** A character that has no place in any text, put into a text or in the place of one of its characters. */
    private static void nothingElse(Check check) {
        check.sentence("Nothing else stands in a text");
        String text = "~p(X,f(a))|a=Y|q";
        for (char c = 32; c <= 126; c++) {
            if (Character.isLetter(c) || "(),|~=#".indexOf(c) >= 0) {
                continue;
            }
            for (int at = 0; at <= text.length(); at++) {
                String end = text.substring(at);
                check.unread(-1, text.substring(0, at) + c + end);
                check.unread(-1, text.substring(0, at) + c + (end.isEmpty() ? "" : end.substring(1)));
            }
        }
    }
}
