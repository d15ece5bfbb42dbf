public final class Promise06StateTest {
    private static final int BAD = RoleSessions.BAD;
    private static final String TEXT = "b>d{g1:d>b{f0:e},h0:e,i0:e}";

    public static void main(String[] args) {
        Checks c = new Checks("promise 6, state");
        kinds(c);
        partners(c);
        labels(c);
        ofTheProcess(c);
        noProtocol(c);
        noRole(c);
        noMachine(c);
        noState(c);
        anyOtherNumber(c);
        c.finish();
    }

    private static void kinds(Checks c) {
        c.sentence("0 its kind (0 end, 1 sends, 2 receives)");
        RoleSessions x = Checks.withProtocol(TEXT);
        c.due("kind that sends", x.state(1, 0, 0), 1);
        c.due("kind that receives", x.state(1, 1, 0), 2);
        c.due("kind of an end", x.state(1, 2, 0), 0);
        c.due("kind of the last end", x.state(1, 4, 0), 0);
        c.due("kind of d", x.state(3, 0, 0), 2);
        c.due("kind of a, who has nothing to do", x.state(0, 0, 0), 0);
    }

    private static void partners(Checks c) {
        c.sentence("1 its partner (BAD for an end)");
        RoleSessions x = Checks.withProtocol(TEXT);
        c.due("to whom b sends", x.state(1, 0, 1), 3);
        c.due("from whom b receives", x.state(1, 1, 1), 3);
        c.due("from whom d receives", x.state(3, 0, 1), 1);
        c.due("to whom d sends", x.state(3, 1, 1), 1);
        c.due("of an end", x.state(1, 2, 1), BAD);
        c.due("of the last end", x.state(1, 4, 1), BAD);
        c.due("of an end alone", x.state(0, 0, 1), BAD);
    }

    private static void labels(Checks c) {
        c.sentence("2 how many labels it has");
        RoleSessions x = Checks.withProtocol(TEXT);
        c.due("of the first", x.state(1, 0, 2), 3);
        c.due("of the second", x.state(1, 1, 2), 1);
        c.due("of an end", x.state(1, 2, 2), 0);
        c.due("of an end alone", x.state(0, 0, 2), 0);
        x = Checks.withProtocol("c>a{f0:e,g0:e,h0:e,i0:e,j0:e,k0:e}");
        c.due("all six", x.state(2, 0, 2), 6);
        c.due("all six", x.state(0, 0, 2), 6);
    }

    private static void ofTheProcess(Checks c) {
        c.sentence("the machine that role r has (its process's, or its part's)");
        RoleSessions x = Checks.withProtocol("a>b{f0:e,g0:e}");
        c.due("labels of the part", x.state(0, 0, 2), 2);
        c.due("the part's last state", x.state(0, 2, 0), 0);
        c.processDue(x, 0, "b!{g0:e}", 2);
        c.due("labels of the process", x.state(0, 0, 2), 1);
        c.due("a state that the part has alone", x.state(0, 2, 0), BAD);
        c.due("labels of another's part", x.state(1, 0, 2), 2);
    }

    private static void noProtocol(Checks c) {
        c.sentence("BAD when there is no protocol");
        RoleSessions x = Checks.typed(new RoleSessions(), "e");
        for (int r = 0; r < 4; r++) {
            for (int what = 0; what < 3; what++) {
                c.due("state(" + r + ", 0, " + what + ")", x.state(r, 0, what), BAD);
            }
        }
    }

    private static void noRole(Checks c) {
        c.sentence("BAD when there is no role");
        RoleSessions x = Checks.withProtocol(TEXT);
        for (int r : new int[] {-1, 4, 5, 256, Integer.MIN_VALUE, Integer.MAX_VALUE}) {
            c.due("state(" + r + ", 0, 0)", x.state(r, 0, 0), BAD);
            c.due("state(" + r + ", 0, 2)", x.state(r, 0, 2), BAD);
        }
    }

    private static void noMachine(Checks c) {
        c.sentence("BAD when there is no machine");
        RoleSessions x = Checks.withProtocol("d>c{f0:e,g0:e}");
        // c's rows are filled, and then not in use any more
        Checks.typed(x, "a>b{f0:c>d{f0:e},g0:c>d{g0:e}}").protocol();
        for (int what = 0; what < 3; what++) {
            c.due("state(2, 0, " + what + ")", x.state(2, 0, what), BAD);
        }
        c.due("state(3, 0, 0)", x.state(3, 0, 0), 2);
    }

    private static void noState(Checks c) {
        c.sentence("BAD when there is no state");
        RoleSessions x = Checks.withProtocol(TEXT);
        c.due("the last one", x.state(1, 4, 2), 0);
        for (int s : new int[] {-1, 5, 30, 31, 256, Integer.MIN_VALUE, Integer.MAX_VALUE}) {
            for (int what = 0; what < 3; what++) {
                c.due("state(1, " + s + ", " + what + ")", x.state(1, s, what), BAD);
            }
        }
        c.due("behind the only one", x.state(0, 1, 0), BAD);
        // a machine with fewer states than the one before
        Checks.typed(x, "b>d{g1:e}").protocol();
        c.due("state(1, 1, 0)", x.state(1, 1, 0), 0);
        c.due("state(1, 2, 0)", x.state(1, 2, 0), BAD);
    }

    private static void anyOtherNumber(Checks c) {
        c.sentence("BAD for any other number");
        RoleSessions x = Checks.withProtocol(TEXT);
        for (int what : new int[] {-1, 3, 4, 256, Integer.MIN_VALUE, Integer.MAX_VALUE}) {
            c.due("state(1, 0, " + what + ")", x.state(1, 0, what), BAD);
            c.due("state(1, 2, " + what + ")", x.state(1, 2, what), BAD);
        }
    }
}
