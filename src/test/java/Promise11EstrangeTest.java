public final class Promise11EstrangeTest {
    public static void main(String[] args) {
        Checks c = new Checks("promise 11, estrange");
        becomesStrange(c);
        tillTheSessionEnds(c);
        noSession(c);
        noRole(c);
        itIsSo(c);
        c.finish();
    }

    private static void becomesStrange(Checks c) {
        c.sentence("Role r becomes strange");
        for (int r = 0; r < 4; r++) {
            RoleSessions x = Checks.inSession("a>b{f0:b>c{f0:c>d{f0:e}}}");
            c.due("estrange(" + r + ")", x.estrange(r), true);
            for (int q = 0; q < 4; q++) {
                c.due("at(" + q + ", 2)", x.at(q, 2), q == r ? 1 : 0);
                c.due("at(" + q + ", 0)", x.at(q, 0), 0);
                c.due("at(" + q + ", 1)", x.at(q, 1), 0);
            }
        }
        RoleSessions x = Checks.inSession("a>b{f0:b>a{f0:e}}");
        x.send(0, 0);
        c.due("estrange(0) in another state", x.estrange(0), true);
        c.due("at(0, 0)", x.at(0, 0), 1);
        c.due("queue(0, 1)", x.queue(0, 1), 1);
        c.due("all four", x.estrange(1) && x.estrange(2) && x.estrange(3), true);
    }

    private static void tillTheSessionEnds(Checks c) {
        c.sentence("till the session ends");
        RoleSessions x = Checks.inSession("a>b{f0:b>a{f0:e}}");
        x.estrange(0);
        x.say(0, 1, 0, 0);
        x.receive(1);
        x.send(1, 0);
        x.take(0, 1);
        c.due("at(0, 2) at its end state", x.at(0, 2), 1);
        c.due("protocol() with a fault", x.protocol(), -100);
        c.due("at(0, 2)", x.at(0, 2), 1);
        c.due("begin()", x.begin(), true);
        c.due("at(0, 2) in a new session", x.at(0, 2), 0);
        c.due("estrange(0) in a new session", x.estrange(0), true);
        c.processDue(x, 3, "e", 1);
        x.begin();
        c.due("at(0, 2) behind a process", x.at(0, 2), 0);
        x.estrange(0);
        Checks.typed(x, "a>b{f0:e}").protocol();
        x.begin();
        c.due("at(0, 2) behind a protocol", x.at(0, 2), 0);
    }

    private static void noSession(Checks c) {
        c.sentence("False when there is no session");
        RoleSessions x = Checks.withProtocol("a>b{f0:e}");
        c.due("estrange(0)", x.estrange(0), false);
        x.begin();
        c.due("at(0, 2)", x.at(0, 2), 0);
        c.processDue(x, 0, "b!{f0:e}", 2);
        c.due("estrange(1) behind the session", x.estrange(1), false);
        x.begin();
        c.due("at(1, 2)", x.at(1, 2), 0);
    }

    private static void noRole(Checks c) {
        c.sentence("False when there is no role");
        RoleSessions x = Checks.inSession("a>b{f0:e}");
        for (int r : new int[] {-1, 4, 5, 256, Integer.MIN_VALUE, Integer.MAX_VALUE}) {
            c.due("estrange(" + r + ")", x.estrange(r), false);
        }
        for (int r = 0; r < 4; r++) {
            c.due("at(" + r + ", 2)", x.at(r, 2), 0);
        }
    }

    private static void itIsSo(Checks c) {
        c.sentence("False when it is so");
        RoleSessions x = Checks.inSession("a>b{f0:e}");
        x.estrange(0);
        c.due("estrange(0) again", x.estrange(0), false);
        c.due("estrange(0) once more", x.estrange(0), false);
        c.due("at(0, 2)", x.at(0, 2), 1);
        c.due("at(0, 1)", x.at(0, 1), 0);
    }
}
