public final class Promise07LabelTest {
    public static void main(String[] args) {
        Checks c = new Checks("promise 7, label");
        RoleSessions x = new RoleSessions();
        c.due("label(0, 0, 0, 0) without a protocol", x.label(0, 0, 0, 0), RoleSessions.BAD);
        Checks.typed(x, "mX.a>b{k2:b>a{h1:X},f0:e}").protocol();
        three(c, x, 0, 0, 0, 5, 2, 1);
        three(c, x, 0, 0, 1, 0, 0, 2);
        three(c, x, 0, 1, 0, 2, 1, 0);
        three(c, x, 1, 0, 0, 5, 2, 1);
        three(c, x, 1, 1, 0, 2, 1, 0);
        c.due("label of an end", x.label(0, 2, 0, 0), RoleSessions.BAD);
        c.due("the label behind the last one", x.label(0, 0, 2, 0), RoleSessions.BAD);
        c.due("the label behind the only one", x.label(0, 1, 1, 0), RoleSessions.BAD);
        int[] beside = {-1, 4, Integer.MIN_VALUE, Integer.MAX_VALUE};
        for (int n : beside) {
            c.due("label(" + n + ", 0, 0, 0)", x.label(n, 0, 0, 0), RoleSessions.BAD);
            c.due("label(0, " + n + ", 0, 0)", x.label(0, n, 0, 0), RoleSessions.BAD);
            c.due("label(0, 0, " + n + ", 0)", x.label(0, 0, n, 0), RoleSessions.BAD);
            c.due("label(0, 0, 0, " + n + ")", x.label(0, 0, 0, n), RoleSessions.BAD);
        }
        c.due("label(0, 0, 0, 3)", x.label(0, 0, 0, 3), RoleSessions.BAD);
        everyLabel(c);
        ofTheProcess(c, x);
        c.due("label of no machine", Checks.withProtocol("a>b{f0:e,g0:c>d{f0:e}}").label(2, 0, 0, 0),
                RoleSessions.BAD);
        c.finish();
    }

    private static void three(Checks c, RoleSessions x, int r, int s, int k, int... want) {
        for (int what = 0; what < 3; what++) {
            c.due("label(" + r + ", " + s + ", " + k + ", " + what + ")", x.label(r, s, k, what), want[what]);
        }
    }

    private static void everyLabel(Checks c) {
        RoleSessions x = Checks.withProtocol("c>d{f0:e,g1:e,h2:e,i0:e,j1:e,k2:e}");
        for (int k = 0; k < 6; k++) {
            three(c, x, 2, 0, k, k, k % 3, k + 1);
            three(c, x, 3, 0, k, k, k % 3, k + 1);
        }
    }

    private static void ofTheProcess(Checks c, RoleSessions x) {
        c.processDue(x, 1, "mX.a?{f0:e,k2:a!{h1:X},g0:mY.e}", 4);
        three(c, x, 1, 0, 0, 0, 0, 1);
        three(c, x, 1, 0, 1, 5, 2, 2);
        three(c, x, 1, 2, 0, 2, 1, 0);
        three(c, x, 1, 0, 2, 1, 0, 3);
    }
}
