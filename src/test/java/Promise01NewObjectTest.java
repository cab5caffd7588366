/** Promise 1: no clauses, no letters used. */
final class Promise01NewObjectTest {
    public static void main(String[] args) {
        Check check = new Check();
        ProofDesk desk = new ProofDesk();
        check.is("clauses", desk.clauses(), 0);
        check.is("draft", desk.draft(), 0);
        check.is("fault", desk.fault(), 0);
        check.is("refuted", desk.refuted(), -1);
        check.is("literals", desk.literals(0), -1);
        check.is("text", Check.text(desk, 0), "");
        for (char letter = 'a'; letter <= 'z'; letter++) {
            check.given(new ProofDesk(), letter + "(A,B,C)", 0);
            check.given(new ProofDesk(), letter + "=A", 0);
            check.given(new ProofDesk(), "" + letter, 0);
        }
        noStateIsShared(check);
        check.end();
    }

    private static void noStateIsShared(Check check) {
        ProofDesk one = Check.deskWith("p(a)");
        ProofDesk other = new ProofDesk();
        Check.write(one, "q");
        check.is("draft of the other", other.draft(), 0);
        check.is("clauses of the other", other.clauses(), 0);
        check.given(other, "a(p)", 0);
    }
}
