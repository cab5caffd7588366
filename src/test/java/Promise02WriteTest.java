/** Promise 2: a character 32 .. 126 is appended while there are fewer than 60. */
final class Promise02WriteTest {
    public static void main(String[] args) {
        Check check = new Check();
        for (int code = 0; code <= 0xFFFF; code++) {
            ProofDesk desk = code % 50 == 0 || code < 200 ? new ProofDesk() : null;
            if (desk != null) {
                boolean due = code >= 32 && code <= 126;
                check.is("write " + code, desk.write((char) code), due);
                check.is("draft after " + code, desk.draft(), due ? 1 : 0);
            }
        }
        check.is("write 65535", new ProofDesk().write((char) 0xFFFF), false);
        atMostSixty(check);
        inOrder(check);
        check.end();
    }

    private static void atMostSixty(Check check) {
        ProofDesk desk = new ProofDesk();
        for (int many = 1; many <= 60; many++) {
            check.is("write " + many, desk.write(many % 2 == 1 ? 'p' : '|'), true);
            check.is("draft " + many, desk.draft(), many);
        }
        check.is("write the 61st", desk.write('p'), false);
        check.is("write no character when there are 60", desk.write((char) 10), false);
        check.is("draft stays", desk.draft(), 60);
        check.is("given", Check.given(desk), Check.ARGUMENT);
        check.is("write again", desk.write('p'), true);
        check.is("draft again", desk.draft(), 1);
    }

    private static void inOrder(Check check) {
        ProofDesk desk = new ProofDesk();
        check.is("p", desk.write('p'), true);
        check.is("no character", desk.write((char) 7), false);
        check.is("(", desk.write('('), true);
        check.is("no character", desk.write((char) 200), false);
        Check.write(desk, "a)");
        check.is("given", Check.given(desk), 0);
        check.is("text", Check.text(desk, 0), "p(a)");
        String sixty = "p(f(f(f(f(f(f(f(f(f(f(f(f(f(f(f(f(f(a))))))))))))))))))|~p(a)";
        check.is("length of the text", sixty.length(), 61);
        Check.write(desk, sixty);
        check.is("60 of 61 characters are no clause", Check.given(desk), Check.ARGUMENT);
        Check.write(desk, sixty.substring(0, 55) + "|p(b)");
        check.is("60 characters", Check.given(desk), 1);
        check.is("text of 60", Check.text(desk, 1), sixty.substring(0, 55) + "|p(b)");
    }
}
