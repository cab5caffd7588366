/** Promise 9: the characters of a clause's text. */
final class Promise09LetterTest {
    public static void main(String[] args) {
        Check check = new Check();
        ProofDesk desk = Check.deskWith("~q(Z,f(Y),a)|Y=X|f(Z)=b|r", "#", "~X=Y");
        String text = "~q(A,f(B),a)|B=C|f(A)=b|r";
        for (int at = 0; at < text.length(); at++) {
            check.is("letter " + at, desk.letter(0, at), text.charAt(at));
        }
        for (int none : new int[] {-1, text.length(), 60, 1000, Integer.MIN_VALUE, Integer.MAX_VALUE}) {
            check.is("letter " + none, desk.letter(0, none), -1);
        }
        check.is("# 0", desk.letter(1, 0), '#');
        check.is("# 1", desk.letter(1, 1), -1);
        check.is("# -1", desk.letter(1, -1), -1);
        for (int none : new int[] {-1, 3, 30, Integer.MIN_VALUE, Integer.MAX_VALUE}) {
            check.is("letter of " + none, desk.letter(none, 0), -1);
        }
        longText(check);
        check.end();
    }

    /** A result may have a text that no draft could hold. */
    private static void longText(Check check) {
        ProofDesk desk = Check.deskWith("p(X)|q(f(f(f(f(f(f(f(f(X)))))))))",
                "~p(f(f(f(f(f(f(f(f(f(f(f(f(f(Y))))))))))))))",
                "~p(f(f(f(f(f(f(f(f(f(f(f(f(f(f(f(f(f(Z))))))))))))))))))");
        String twentyOne = "q(" + "f(".repeat(21) + "A" + ")".repeat(22);
        check.step(desk, "", Check.by(0, 0, 0, 1, 0, 0), twentyOne);
        String deep = "q(" + "f(".repeat(25) + "A" + ")".repeat(26);
        check.step(desk, "", Check.by(0, 0, 0, 2, 0, 0), deep);
        check.given(desk, "~q(f(f(f(f(f(f(f(f(f(f(f(Z))))))))))))|p(f(f(f(Z))))", 5);
        check.step(desk, "", Check.by(0, 4, 0, 5, 0, 0), "p(" + "f(".repeat(17) + "A" + ")".repeat(18));
        desk = Check.deskWith("f(f(f(f(f(f(f(f(f(f(f(f(b))))))))))))=b");
        check.step(desk, "", Check.by(3, 0, 0, 0, 0, 112), "f(".repeat(24) + "b" + ")".repeat(24) + "=b");
        check.step(desk, "", Check.by(3, 0, 0, 1, 0, 124), "f(".repeat(36) + "b" + ")".repeat(36) + "=b");
        check.is("size", desk.size(2), 39);
        check.refused(desk, "", Check.by(3, 0, 0, 2, 0, 136), -7);
    }
}
