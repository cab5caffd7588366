/** Promise 14: the length of the draft, which given and step empty whatever they answer. */
final class Promise14DraftTest {
    public static void main(String[] args) {
        Check check = new Check();
        ProofDesk desk = new ProofDesk();
        check.is("at first", desk.draft(), 0);
        for (int many = 1; many <= 70; many++) {
            desk.write('a');
            check.is("after " + many, desk.draft(), Math.min(many, 60));
        }
        check.is("refused", Check.given(desk), Check.ARGUMENT);
        check.is("empty", desk.draft(), 0);
        Check.write(desk, "p(X)|q");
        check.is("six", desk.draft(), 6);
        desk.clauses();
        desk.letter(0, 0);
        desk.fault();
        check.is("still six", desk.draft(), 6);
        check.is("no character", desk.write((char) 9), false);
        check.is("six again", desk.draft(), 6);
        check.is("added", Check.given(desk), 0);
        check.is("empty again", desk.draft(), 0);
        Check.write(desk, "p(a)|q");
        check.is("step that is right", Check.step(desk, Check.by(4, 0, 0, 0, 0, 0)), 1);
        check.is("empty after a step", desk.draft(), 0);
        Check.write(desk, "p(a)|q");
        check.is("step that is not there", Check.step(desk, Check.by(4, 5, 0, 0, 0, 0)), Check.ABSENT);
        check.is("empty after that", desk.draft(), 0);
        check.end();
    }
}
