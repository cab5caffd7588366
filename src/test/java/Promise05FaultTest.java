/** Promise 5: fault tells why the latest given or step threw, and nothing else changes it. */
final class Promise05FaultTest {
    public static void main(String[] args) {
        Check check = new Check();
        ProofDesk desk = new ProofDesk();
        check.is("at first", desk.fault(), 0);
        check.given(desk, "p(X", Check.ARGUMENT, -1);
        stays(check, desk, -1);
        check.given(desk, "p(X)|~p(a)", 0, 0);
        stays(check, desk, 0);
        check.given(desk, "p", Check.ARGUMENT, -2);
        stays(check, desk, -2);
        check.refused(desk, "", Check.by(0, 0, 0, 0, 2, 0), -4);
        stays(check, desk, -4);
        check.refused(desk, "", Check.by(0, 0, 0, 0, 0, 0), -5);
        stays(check, desk, -5);
        check.given(desk, "~p(b)", 1, 0);
        check.refused(desk, "", Check.by(1, 0, 0, 0, 1, 0), -5);
        check.given(desk, "p(a)|p(b)", 2, 0);
        check.refused(desk, "", Check.by(1, 2, 0, 0, 1, 0), -6);
        stays(check, desk, -6);
        check.given(desk, "p(c)|p(d)|p(e)|p(f)|p(X)", 3, 0);
        check.given(desk, "~p(g)|p(h)|p(i)|p(j)", 4, 0);
        check.refused(desk, "", Check.by(0, 3, 4, 4, 0, 0), -7);
        stays(check, desk, -7);
        check.refused(desk, "p(a)", Check.by(0, 0, 0, 1, 0, 0), -8);
        stays(check, desk, -8);
        check.step(desk, "~p(a)", Check.by(0, 0, 0, 1, 0, 0), "~p(a)");
        stays(check, desk, 0);
        while (desk.clauses() < 30) {
            Check.write(desk, "#");
            desk.given();
        }
        check.given(desk, "#", Check.STATE, -3);
        stays(check, desk, -3);
        check.refused(desk, "", Check.by(0, 0, 0, 1, 0, 0), -3);
        check.end();
    }

    private static void stays(Check check, ProofDesk desk, int fault) {
        desk.write('p');
        desk.write((char) 0);
        desk.clauses();
        desk.literals(99);
        desk.size(-1);
        desk.letter(0, 999);
        desk.depth(99);
        desk.needs(99, 99);
        desk.refuted();
        desk.trivial(99);
        desk.draft();
        check.is("fault stays", desk.fault(), fault);
        ProofDesk other = new ProofDesk();
        check.given(other, "(", Check.ARGUMENT, -1);
        check.is("fault of another object", desk.fault(), fault);
        takeBack(desk);
    }

    /** The character that was written must not stand before the next text. */
    private static void takeBack(ProofDesk desk) {
        Check.step(desk, Check.by(9, 0, 0, 0, 0, 0));
    }
}
