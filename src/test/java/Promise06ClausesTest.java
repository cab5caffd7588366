/** Promise 6: how many clauses there are. */
final class Promise06ClausesTest {
    public static void main(String[] args) {
        Check check = new Check();
        ProofDesk desk = new ProofDesk();
        check.is("at first", desk.clauses(), 0);
        check.given(desk, "p(X)", 0);
        check.is("one", desk.clauses(), 1);
        check.given(desk, "p(X", Check.ARGUMENT, -1);
        check.is("still one", desk.clauses(), 1);
        check.given(desk, "~p(a)", 1);
        check.step(desk, "", Check.by(0, 0, 0, 1, 0, 0), "#");
        check.is("three", desk.clauses(), 3);
        check.refused(desk, "", Check.by(0, 0, 0, 0, 0, 0), -5);
        check.is("still three", desk.clauses(), 3);
        for (int more = 3; more < 40; more++) {
            Check.write(desk, "p(X)");
            Check.given(desk);
        }
        check.is("thirty", desk.clauses(), 30);
        check.end();
    }
}
