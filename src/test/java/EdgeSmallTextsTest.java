/** Every text of up to five characters out of those that a clause can have is read as the model reads it. */
final class EdgeSmallTextsTest {
    private static final String CHARACTERS = "aX(),=~|#";
    private static final int LONGEST = 5;

    public static void main(String[] args) {
        Check check = new Check();
        check.sentence("Reading it as a clause fails with SYNTAX (-1) when it is none, with USE (-2)");
        extend(check, "");
        check.end();
    }

    private static void extend(Check check, String text) {
        compare(check, text);
        for (int next = 0; next < CHARACTERS.length() && text.length() < LONGEST; next++) {
            extend(check, text + CHARACTERS.charAt(next));
        }
    }

    private static void compare(Check check, String text) {
        ProofDesk desk = new ProofDesk();
        Model model = new Model();
        Check.write(desk, text);
        model.draft.append(text);
        check.is("given " + text, Check.given(desk), model.given());
        check.is("fault after " + text, desk.fault(), model.fault);
        check.is("text of " + text, Check.text(desk, 0), model.text(0));
    }
}
