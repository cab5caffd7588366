/** Promise 4, rule 2: reflection. */
final class Promise04StepReflectionTest {
    public static void main(String[] args) {
        Check check = new Check();
        ProofDesk desk = Check.deskWith("~X=Y|p(X,Y)", "q(X)|~f(X)=f(g(Y))|q(Y)", "~a=a", "~a=b", "~X=f(X)", "a=a",
                "~q(a)|~X=X", "~h(X,Y,Z)=h(f(Y),f(Z),f(X))|q(X)", "~h(X,Y,Z)=h(f(Y),f(Z),U)|p(X,Z)");
        check.step(desk, "", by(0, 0), "p(A,A)");
        check.step(desk, "", by(1, 1), "q(g(A))|q(A)");
        check.step(desk, "", by(2, 0), "#");
        check.step(desk, "", by(6, 1), "~q(a)");
        check.step(desk, "", by(8, 0), "p(f(f(A)),A)");
        check.refused(desk, "", by(3, 0), -6);
        check.refused(desk, "", by(4, 0), -6);
        check.refused(desk, "", by(7, 0), -6);
        check.refused(desk, "", by(5, 0), -5);
        check.refused(desk, "", by(6, 0), -5);
        check.refused(desk, "", by(0, 1), -5);
        check.refused(desk, "", by(0, 2), -4);
        check.refused(desk, "", by(0, -1), -4);
        check.refused(desk, "", by(14, 0), -4);
        check.refused(desk, "", by(-1, 0), -4);
        check.refused(Check.deskWith("r|~s"), "", by(0, 0), -5);
        check.refused(Check.deskWith("r|~s"), "", by(0, 1), -5);
        check.end();
    }

    private static int[] by(int i, int k) {
        return Check.by(2, i, k, -7, 99, -1);
    }
}
