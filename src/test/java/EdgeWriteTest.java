/** The edges of the promises 1, 2 and 14 (a new object, write and draft), and of the 512 calls. */
final class EdgeWriteTest {
    public static void main(String[] args) {
        Check check = new Check();
        noClauses(check);
        noLetters(check);
        characters(check);
        wideCharacters(check);
        whenThereAreSixty(check);
        noneSuchWhenFull(check);
        length(check);
        lastCall(check);
        check.end();
    }

    private static void noClauses(Check check) {
        check.sentence("ProofDesk(): No clauses");
        ProofDesk desk = new ProofDesk();
        check.is("clauses", desk.clauses(), 0);
        check.is("refuted", desk.refuted(), -1);
        check.is("literals", desk.literals(0), -1);
        check.is("size", desk.size(0), -1);
        check.is("letter", desk.letter(0, 0), -1);
        check.is("depth", desk.depth(0), -1);
        check.is("needs", desk.needs(0, 0), false);
        check.is("trivial", desk.trivial(0), false);
        check.is("draft", desk.draft(), 0);
        check.is("fault", desk.fault(), 0);
        check.refused(desk, "", Check.by(0, 0, 0, 0, 0, 0), -4);
        check.refused(desk, "p", Check.by(4, 0, 0, 0, 0, 0), -4);
        check.given(desk, "", Check.ARGUMENT, -1);
        check.given(desk, "p", 0);
    }

    private static void noLetters(Check check) {
        check.sentence("ProofDesk(): no letters used");
        for (char c = 'a'; c <= 'z'; c++) {
            check.read("" + c, c + "(A,B)", c + "=A", "A=" + c + "(A,B,C)");
        }
    }

    private static void characters(Check check) {
        check.sentence("Appends a character (32 .. 126) to the draft: true; false when it is none such");
        ProofDesk desk = new ProofDesk();
        int length = 0;
        for (int code = 0; code < 256; code++) {
            boolean due = code >= 32 && code <= 126;
            if (length == 60) {
                Check.given(desk);
                length = 0;
            }
            check.is("write " + code, desk.write((char) code), due);
            length += due ? 1 : 0;
            if (code == 31 || code == 32 || code == 126 || code == 127) {
                check.is("draft after " + code, desk.draft(), length);
            }
        }
    }

    /** A code that only its lower bits would make a character is none. */
    private static void wideCharacters(Check check) {
        ProofDesk desk = new ProofDesk();
        for (int code : new int[] {256 + 'p', 0x8000 + 'p', 0xFF00 + 'p', 0x4000 + 32, 0x100 + 126, 0xFFFF, 0x8000}) {
            check.is("write " + code, desk.write((char) code), false);
        }
        check.is("draft", desk.draft(), 0);
        check.given(desk, "p", 0);
    }

    private static void whenThereAreSixty(Check check) {
        check.sentence("false when there are 60");
        ProofDesk desk = new ProofDesk();
        for (int many = 0; many < 60; many++) {
            check.is("draft", desk.draft(), many);
            check.is("write when there are " + many, desk.write(many % 2 == 0 ? 'p' : '|'), true);
        }
        for (int more = 0; more < 5; more++) {
            check.is("write when there are 60", desk.write('p'), false);
            check.is("draft", desk.draft(), 60);
        }
        check.is("the text ends with |", Check.given(desk), Check.ARGUMENT);
        check.is("write again", desk.write('p'), true);
        check.is("given", Check.given(desk), 0);
        check.is("text", Check.text(desk, 0), "p");
    }

    private static void noneSuchWhenFull(Check check) {
        ProofDesk desk = new ProofDesk();
        Check.write(desk, "p" + "|p".repeat(29) + " ");
        for (int code : new int[] {0, 31, 127, 0xFFFF}) {
            check.is("write " + code + " when there are 60", desk.write((char) code), false);
        }
        check.is("draft", desk.draft(), 60);
        check.is("the last space is in it", Check.given(desk), Check.ARGUMENT);
        Check.write(desk, "p" + "|p".repeat(29));
        check.is("59 characters", desk.draft(), 59);
        check.is("without it", Check.given(desk), 0);
    }

    private static void length(Check check) {
        check.sentence("The length of the draft");
        ProofDesk desk = new ProofDesk();
        check.is("draft", desk.draft(), 0);
        Check.write(desk, "p|q");
        check.is("three", desk.draft(), 3);
        check.is("asked again", desk.draft(), 3);
        desk.write((char) 127);
        check.is("still three", desk.draft(), 3);
        check.is("given", Check.given(desk), 0);
        check.is("none", desk.draft(), 0);
    }

    private static void lastCall(Check check) {
        check.sentence("An object is used for at most 512 calls after it has been made");
        ProofDesk desk = new ProofDesk();
        int calls = 0;
        for (int number = 0; number < 29; number++) {
            for (char c : "p(X)|q(a)".toCharArray()) {
                check.is("write", desk.write(c), true);
                calls++;
            }
            check.is("given", Check.given(desk), number);
            calls++;
        }
        while (calls < 511) {
            check.is("refused step", Check.step(desk, Check.by(1, 28, 0, 0, 1, 0)), Check.UNSUPPORTED);
            calls++;
        }
        check.is("the 512th call", desk.letter(28, 8), ')');
    }
}
