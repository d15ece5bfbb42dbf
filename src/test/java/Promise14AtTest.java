public final class Promise14AtTest {
    private static final int BAD = RoleSessions.BAD;

    public static void main(String[] args) {
        Checks c = new Checks("promise 14, at");
        states(c);
        theMonitors(c);
        faults(c);
        whetherStrange(c);
        noSession(c);
        noRole(c);
        anyOtherNumber(c);
        c.finish();
    }

    private static void states(Checks c) {
        c.sentence("0 the state of role r");
        RoleSessions x = Checks.inSession("a>b{f0:b>c{g0:e}}");
        for (int r = 0; r < 4; r++) {
            c.due("at(" + r + ", 0)", x.at(r, 0), 0);
        }
        x.send(0, 0);
        c.due("at(0, 0)", x.at(0, 0), 1);
        c.due("at(1, 0)", x.at(1, 0), 0);
        x.receive(1);
        c.due("at(1, 0)", x.at(1, 0), 1);
        x.send(1, 1);
        c.due("at(1, 0)", x.at(1, 0), 2);
        c.due("at(2, 0)", x.at(2, 0), 0);
    }

    private static void theMonitors(Checks c) {
        c.sentence("(the monitor's, if it is strange)");
        RoleSessions x = Checks.inSession("a>b{f0:b>c{g0:e}}");
        x.send(0, 0);
        x.estrange(1);
        c.due("at(1, 0)", x.at(1, 0), 0);
        x.take(1, 0);
        c.due("at(1, 0)", x.at(1, 0), 1);
        x.say(1, 3, 0, 0);
        c.due("at(1, 0) behind a fault", x.at(1, 0), 1);
        x.say(1, 2, 1, 0);
        c.due("at(1, 0)", x.at(1, 0), 2);
    }

    private static void faults(Checks c) {
        c.sentence("1 the faults of role r");
        RoleSessions x = Checks.inSession("a>b{f0:b>c{g0:e}}");
        x.estrange(1);
        c.due("none", x.at(1, 1), 0);
        x.say(1, 3, 0, 0);
        x.say(1, 3, 0, 0);
        x.take(1, 2);
        c.due("three", x.at(1, 1), 3);
        c.due("of another", x.at(0, 1), 0);
        x.take(1, 0);
        x.send(1, 1);
        x.say(1, 1, 0, 0);
        c.due("no more by WAIT, REFUSED of send() and BAD", x.at(1, 1), 3);
    }

    private static void whetherStrange(Checks c) {
        c.sentence("2 whether it is strange (1 or 0)");
        RoleSessions x = Checks.inSession("a>b{f0:b>c{g0:e}}");
        c.due("at(1, 2)", x.at(1, 2), 0);
        x.estrange(1);
        for (int r = 0; r < 4; r++) {
            c.due("at(" + r + ", 2)", x.at(r, 2), r == 1 ? 1 : 0);
        }
    }

    private static void noSession(Checks c) {
        c.sentence("BAD when there is no session");
        RoleSessions x = Checks.withProtocol("a>b{f0:e}");
        for (int what = 0; what < 3; what++) {
            c.due("at(0, " + what + ")", x.at(0, what), BAD);
        }
        x.begin();
        Checks.typed(x, "e").protocol();
        for (int what = 0; what < 3; what++) {
            c.due("at(0, " + what + ") behind the session", x.at(0, what), BAD);
        }
    }

    private static void noRole(Checks c) {
        c.sentence("BAD when there is no role");
        RoleSessions x = Checks.inSession("e");
        for (int r : new int[] {-1, 4, 5, 256, Integer.MIN_VALUE, Integer.MAX_VALUE}) {
            for (int what = 0; what < 3; what++) {
                c.due("at(" + r + ", " + what + ")", x.at(r, what), BAD);
            }
        }
        c.due("at(3, 0)", x.at(3, 0), 0);
    }

    private static void anyOtherNumber(Checks c) {
        c.sentence("BAD for any other number");
        RoleSessions x = Checks.inSession("e");
        for (int what : new int[] {-1, 3, 4, 256, Integer.MIN_VALUE, Integer.MAX_VALUE}) {
            c.due("at(0, " + what + ")", x.at(0, what), BAD);
        }
    }
}
