import java.util.NoSuchElementException;

/** What the tests share: calls with whole texts, and a count of the answers that were not due. */
final class Check {
    static final int STATE = -1003;
    static final int ABSENT = -1004;
    static final int ARGUMENT = -1001;
    static final int UNSUPPORTED = -1005;

    private int wrong;
    private String sentence = "";

    /** The words of the document that the next answers are held against; they are told with a wrong one. */
    void sentence(String words) {
        sentence = "'" + words + "': ";
    }

    void is(String what, long got, long want) {
        if (got != want) {
            tell(what, "" + got, "" + want);
        }
    }

    void is(String what, boolean got, boolean want) {
        is(what, got ? 1 : 0, want ? 1 : 0);
    }

    void is(String what, String got, String want) {
        if (!got.equals(want)) {
            tell(what, got, want);
        }
    }

    private void tell(String what, String got, String want) {
        wrong++;
        System.out.println(sentence + what + " answered " + got + ", due is " + want);
    }

    void end() {
        if (wrong > 0) {
            System.exit(1);
        }
    }

    /** given, or the exception that it threw, and the fault that goes with it. */
    void given(ProofDesk desk, String text, int due, int fault) {
        write(desk, text);
        is("given " + text, given(desk), due);
        is("fault after given " + text, desk.fault(), fault);
        is("draft after given " + text, desk.draft(), 0);
    }

    void given(ProofDesk desk, String text, int due) {
        given(desk, text, due, 0);
    }

    /** Each text is a clause for a new object, and is kept as it stands. */
    void read(String... texts) {
        for (String text : texts) {
            readAs(text, text);
        }
    }

    /** A text is a clause for a new object, which is then kept as due. */
    void readAs(String text, String due) {
        ProofDesk desk = new ProofDesk();
        given(desk, text, 0);
        is("text of " + text, text(desk, 0), due);
    }

    /** None of the texts is a clause for a new object. */
    void unread(int fault, String... texts) {
        for (String text : texts) {
            ProofDesk desk = new ProofDesk();
            given(desk, text, ARGUMENT, fault);
            is("clauses after " + text, desk.clauses(), 0);
        }
    }

    /** A step that is right; the clause that it makes is looked at, too. */
    void step(ProofDesk desk, String claim, int[] step, String made) {
        String name = "step " + java.util.Arrays.toString(step) + " with " + claim;
        int number = desk.clauses();
        write(desk, claim);
        is(name, step(desk, step), number);
        is(name + ": text", text(desk, number), made);
        is(name + ": fault", desk.fault(), 0);
        is(name + ": draft", desk.draft(), 0);
        is(name + ": clauses", desk.clauses(), number + 1);
    }

    /** A step that throws and adds nothing. */
    void refused(ProofDesk desk, String claim, int[] step, int fault) {
        String name = "step " + java.util.Arrays.toString(step) + " with " + claim;
        int number = desk.clauses();
        write(desk, claim);
        is(name, step(desk, step), thrownFor(fault));
        is(name + ": fault", desk.fault(), fault);
        is(name + ": draft", desk.draft(), 0);
        is(name + ": clauses", desk.clauses(), number);
    }

    static int thrownFor(int fault) {
        switch (fault) {
            case -1:
            case -2:
                return ARGUMENT;
            case -3:
                return STATE;
            case -4:
                return ABSENT;
            default:
                return UNSUPPORTED;
        }
    }

    static int[] by(int rule, int i, int k, int j, int l, int p) {
        return new int[] {rule, i, k, j, l, p};
    }

    static void write(ProofDesk desk, String text) {
        for (int at = 0; at < text.length(); at++) {
            desk.write(text.charAt(at));
        }
    }

    static int given(ProofDesk desk) {
        try {
            return desk.given();
        } catch (IllegalArgumentException e) {
            return ARGUMENT;
        } catch (IllegalStateException e) {
            return STATE;
        }
    }

    static int step(ProofDesk desk, int[] s) {
        try {
            return desk.step(s[0], s[1], s[2], s[3], s[4], s[5]);
        } catch (IllegalStateException e) {
            return STATE;
        } catch (NoSuchElementException e) {
            return ABSENT;
        } catch (IllegalArgumentException e) {
            return ARGUMENT;
        } catch (UnsupportedOperationException e) {
            return UNSUPPORTED;
        }
    }

    static String text(ProofDesk desk, int clause) {
        StringBuilder out = new StringBuilder();
        int code = desk.letter(clause, 0);
        while (code >= 0 && out.length() < 1000) {
            out.append((char) code);
            code = desk.letter(clause, out.length());
        }
        return out.toString();
    }

    static ProofDesk deskWith(String... texts) {
        ProofDesk desk = new ProofDesk();
        for (String text : texts) {
            write(desk, text);
            desk.given();
        }
        return desk;
    }
}
