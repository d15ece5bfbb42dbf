public final class Promise06StateTest {
    public static void main(String[] args) {
        Checks c = new Checks("promise 6, state");
        RoleSessions x = new RoleSessions();
        c.due("state(0, 0, 0) without a protocol", x.state(0, 0, 0), RoleSessions.BAD);
        Checks.typed(x, "b>d{g1:d>b{f0:e},h0:e,i0:e}").protocol();
        c.due("kind that sends", x.state(1, 0, 0), 1);
        c.due("partner", x.state(1, 0, 1), 3);
        c.due("labels", x.state(1, 0, 2), 3);
        c.due("kind that receives", x.state(1, 1, 0), 2);
        c.due("partner", x.state(1, 1, 1), 3);
        c.due("labels", x.state(1, 1, 2), 1);
        c.due("kind of an end", x.state(1, 2, 0), 0);
        c.due("partner of an end", x.state(1, 2, 1), RoleSessions.BAD);
        c.due("labels of an end", x.state(1, 2, 2), 0);
        c.due("the last state", x.state(1, 4, 0), 0);
        c.due("kind of d", x.state(3, 0, 0), 2);
        c.due("partner of d", x.state(3, 0, 1), 1);
        c.due("kind of a", x.state(0, 0, 0), 0);
        wrongNumbers(c, x);
        noMachine(c);
        ofTheProcess(c);
        c.finish();
    }

    private static void wrongNumbers(Checks c, RoleSessions x) {
        int[] beside = {-1, 5, Integer.MIN_VALUE, Integer.MAX_VALUE};
        for (int n : beside) {
            c.due("state(1, " + n + ", 0)", x.state(1, n, 0), RoleSessions.BAD);
            c.due("state(" + n + ", 0, 0)", x.state(n, 0, 0), RoleSessions.BAD);
            c.due("state(1, 0, " + n + ")", x.state(1, 0, n), RoleSessions.BAD);
        }
        c.due("state(4, 0, 0)", x.state(4, 0, 0), RoleSessions.BAD);
        c.due("state(1, 0, 3)", x.state(1, 0, 3), RoleSessions.BAD);
        c.due("state(0, 1, 0)", x.state(0, 1, 0), RoleSessions.BAD);
    }

    private static void noMachine(Checks c) {
        RoleSessions x = Checks.withProtocol("a>b{f0:c>d{f0:e},g0:c>d{g0:e}}");
        c.due("state(2, 0, 0)", x.state(2, 0, 0), RoleSessions.BAD);
        c.due("state(3, 0, 0)", x.state(3, 0, 0), 2);
    }

    private static void ofTheProcess(Checks c) {
        RoleSessions x = Checks.withProtocol("a>b{f0:e,g0:e}");
        c.processDue(x, 0, "b!{g0:e}", 2);
        c.due("labels of the process", x.state(0, 0, 2), 1);
        c.due("state(0, 2, 0)", x.state(0, 2, 0), RoleSessions.BAD);
        c.due("labels of the part", x.state(1, 0, 2), 2);
    }
}
