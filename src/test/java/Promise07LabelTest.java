public final class Promise07LabelTest {
    private static final int BAD = RoleSessions.BAD;
    private static final String TEXT = "mX.a>b{k2:b>a{h1:X},f0:e}";

    public static void main(String[] args) {
        Checks c = new Checks("promise 7, label");
        inOrder(c);
        everyLabel(c);
        everySort(c);
        whereItLeads(c);
        ofTheProcess(c);
        thereIsNone(c);
        noState(c);
        noRole(c);
        noMachine(c);
        anyOtherNumber(c);
        c.finish();
    }

    private static void three(Checks c, RoleSessions x, int r, int s, int k, int... want) {
        for (int what = 0; what < 3; what++) {
            c.due("label(" + r + ", " + s + ", " + k + ", " + what + ")", x.label(r, s, k, what), want[what]);
        }
    }

    private static void inOrder(Checks c) {
        c.sentence("Of the k-th label (from 0, in order) of state s");
        RoleSessions x = Checks.withProtocol(TEXT);
        three(c, x, 0, 0, 0, 5, 2, 1);
        three(c, x, 0, 0, 1, 0, 0, 2);
        three(c, x, 0, 1, 0, 2, 1, 0);
        three(c, x, 1, 0, 0, 5, 2, 1);
        three(c, x, 1, 1, 0, 2, 1, 0);
    }

    private static void everyLabel(Checks c) {
        c.sentence("0 the label (0 for f, 5 for k)");
        RoleSessions x = Checks.withProtocol("c>d{f0:e,g1:e,h2:e,i0:e,j1:e,k2:e}");
        for (int k = 0; k < 6; k++) {
            c.due("label(2, 0, " + k + ", 0)", x.label(2, 0, k, 0), k);
            c.due("label(3, 0, " + k + ", 0)", x.label(3, 0, k, 0), k);
        }
    }

    private static void everySort(Checks c) {
        c.sentence("1 its sort");
        RoleSessions x = Checks.withProtocol("c>d{f2:e,g1:e,h0:e,i0:e,j1:e,k2:e}");
        int[] sorts = {2, 1, 0, 0, 1, 2};
        for (int k = 0; k < 6; k++) {
            c.due("label(2, 0, " + k + ", 1)", x.label(2, 0, k, 1), sorts[k]);
            c.due("label(3, 0, " + k + ", 1)", x.label(3, 0, k, 1), sorts[k]);
        }
    }

    private static void whereItLeads(Checks c) {
        c.sentence("2 the state to which it leads");
        RoleSessions x = Checks.withProtocol("mX.a>b{f0:X,g0:a>b{f0:X,g0:e},h0:e}");
        c.due("to itself", x.label(0, 0, 0, 2), 0);
        c.due("to the next", x.label(0, 0, 1, 2), 1);
        c.due("to the last", x.label(0, 0, 2, 2), 3);
        c.due("back", x.label(0, 1, 0, 2), 0);
        c.due("to the end", x.label(0, 1, 1, 2), 2);
    }

    private static void ofTheProcess(Checks c) {
        c.sentence("of the machine that role r has");
        RoleSessions x = Checks.withProtocol(TEXT);
        c.processDue(x, 1, "mX.a?{f0:e,k2:a!{h1:X},g0:mY.e}", 4);
        three(c, x, 1, 0, 0, 0, 0, 1);
        three(c, x, 1, 0, 1, 5, 2, 2);
        three(c, x, 1, 0, 2, 1, 0, 3);
        three(c, x, 1, 2, 0, 2, 1, 0);
        three(c, x, 0, 0, 0, 5, 2, 1);
    }

    private static void thereIsNone(Checks c) {
        c.sentence("BAD when there is none");
        RoleSessions x = Checks.withProtocol(TEXT);
        for (int what = 0; what < 3; what++) {
            c.due("of an end", x.label(0, 2, 0, what), BAD);
            c.due("behind the last one", x.label(0, 0, 2, what), BAD);
            // the next state's labels are not this one's
            c.due("behind the only one", x.label(0, 1, 1, what), BAD);
            c.due("before the first one", x.label(0, 1, -1, what), BAD);
        }
        for (int k : new int[] {-1, 6, 256, Integer.MIN_VALUE, Integer.MAX_VALUE}) {
            c.due("label(0, 0, " + k + ", 0)", x.label(0, 0, k, 0), BAD);
        }
    }

    private static void noState(Checks c) {
        c.sentence("BAD when there is none: no such state");
        RoleSessions x = Checks.withProtocol(TEXT);
        for (int s : new int[] {-1, 3, 4, 30, 256, Integer.MIN_VALUE, Integer.MAX_VALUE}) {
            c.due("label(0, " + s + ", 0, 0)", x.label(0, s, 0, 0), BAD);
        }
        // what an earlier machine had
        Checks.typed(x, "a>b{f0:e}").protocol();
        c.due("label(0, 0, 0, 2)", x.label(0, 0, 0, 2), 1);
        c.due("label(0, 0, 1, 0)", x.label(0, 0, 1, 0), BAD);
        c.due("label(0, 1, 0, 0)", x.label(0, 1, 0, 0), BAD);
    }

    private static void noRole(Checks c) {
        c.sentence("BAD when there is none: no such role, or no protocol");
        RoleSessions x = Checks.withProtocol(TEXT);
        for (int r : new int[] {-1, 4, 256, Integer.MIN_VALUE, Integer.MAX_VALUE}) {
            c.due("label(" + r + ", 0, 0, 0)", x.label(r, 0, 0, 0), BAD);
        }
        for (int r = 0; r < 4; r++) {
            c.due("label(" + r + ", 0, 0, 0) without a protocol", new RoleSessions().label(r, 0, 0, 0), BAD);
        }
    }

    private static void noMachine(Checks c) {
        c.sentence("BAD when there is none: no machine");
        RoleSessions x = Checks.withProtocol("c>d{f0:e}");
        Checks.typed(x, "a>b{f0:e,g0:c>d{f0:e}}").protocol();
        c.due("label(2, 0, 0, 0)", x.label(2, 0, 0, 0), BAD);
        c.due("label(3, 0, 0, 0)", x.label(3, 0, 0, 0), BAD);
        c.due("label(1, 0, 1, 0)", x.label(1, 0, 1, 0), 1);
    }

    private static void anyOtherNumber(Checks c) {
        c.sentence("BAD for any other number");
        RoleSessions x = Checks.withProtocol(TEXT);
        for (int what : new int[] {-1, 3, 4, 256, Integer.MIN_VALUE, Integer.MAX_VALUE}) {
            c.due("label(0, 0, 0, " + what + ")", x.label(0, 0, 0, what), BAD);
        }
    }
}
