/** Promise 12: the least clause without literals. */
final class Promise12RefutedTest {
    public static void main(String[] args) {
        Check check = new Check();
        ProofDesk desk = new ProofDesk();
        check.is("at first", desk.refuted(), -1);
        check.given(desk, "p(X)", 0);
        check.given(desk, "~p(a)", 1);
        check.given(desk, "q|~q", 2);
        check.is("none yet", desk.refuted(), -1);
        check.step(desk, "", Check.by(0, 0, 0, 1, 0, 0), "#");
        check.is("by a step", desk.refuted(), 3);
        check.given(desk, "#", 4);
        check.is("the least", desk.refuted(), 3);
        check.is("by given", Check.deskWith("#").refuted(), 0);
        check.is("second", Check.deskWith("p", "#", "#").refuted(), 1);
        check.end();
    }
}
