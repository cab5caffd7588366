/** Promise 4: with the rules 0 to 3 a claim must be the result but for the names of variables. */
final class Promise04StepClaimTest {
    private static final int[] RESOLVE = Check.by(0, 0, 0, 1, 0, 0);

    public static void main(String[] args) {
        Check check = new Check();
        ProofDesk desk = Check.deskWith("p(X)|q(X,Y)|~r(Y)|X=Z", "~p(f(U))|t");
        String made = "q(f(A),B)|~r(B)|f(A)=C|t";
        check.step(desk, "", RESOLVE, made);
        check.step(desk, made, RESOLVE, made);
        check.step(desk, "q(f(Z),A)|~r(A)|f(Z)=B|t", RESOLVE, made);
        check.step(desk, "q(f(B),A)|~r(A)|f(B)=C|t", RESOLVE, made);
        check.step(desk, "q(f(A),B)|~r(B)|q(f(A),B)|f(A)=C|t|t", RESOLVE, made);
        desk = Check.deskWith("p(X)|q(X,Y)|~r(Y)|X=Z", "~p(f(U))|t");
        for (String claim : new String[] {
            "q(f(A),A)|~r(A)|f(A)=C|t", "q(f(A),B)|~r(C)|f(A)=B|t", "q(f(A),B)|~r(B)|f(A)=B|t",
            "q(f(A),B)|~r(B)|f(D)=C|t", "~r(B)|q(f(A),B)|f(A)=C|t", "q(f(A),B)|~r(B)|C=f(A)|t",
            "q(f(A),B)|r(B)|f(A)=C|t", "q(f(A),B)|~r(B)|f(A)=C|~t", "q(f(A),B)|~r(B)|f(A)=C",
            "q(f(A),B)|~r(B)|f(A)=C|t|~t", "#", "t", "w", "q(f(A),B)|~r(B)|f(A)=C|w", "q(f(a),B)|~r(B)|f(a)=C|t"}) {
            check.refused(desk, claim, RESOLVE, -8);
        }
        check.refused(desk, "q(f(A),B)|~r(B)|f(A)=C|", RESOLVE, -1);
        check.refused(desk, " ", RESOLVE, -1);
        check.refused(desk, "q(f(A))", RESOLVE, -2);
        check.given(desk, "a(w)", 2);
        ProofDesk empty = Check.deskWith("p", "~p", "q(X)|q(a)", "~X=a|q(X)", "a=b|q(b)");
        check.step(empty, "#", RESOLVE, "#");
        check.refused(empty, "p", RESOLVE, -8);
        check.step(empty, "q(a)", Check.by(1, 2, 0, 0, 1, 0), "q(a)");
        check.refused(empty, "q(X)", Check.by(1, 2, 0, 0, 1, 0), -8);
        check.step(empty, "q(a)", Check.by(2, 3, 0, 0, 0, 0), "q(a)");
        check.refused(empty, "q(X)|q(a)", Check.by(2, 3, 0, 0, 0, 0), -8);
        check.step(empty, "q(b)", Check.by(3, 4, 0, 6, 0, 0), "q(b)");
        check.refused(empty, "q(b)|q(a)", Check.by(3, 4, 0, 6, 0, 0), -8);
        check.end();
    }
}
