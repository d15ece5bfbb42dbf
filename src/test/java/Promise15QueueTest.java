public final class Promise15QueueTest {
    private static final int BAD = RoleSessions.BAD;

    public static void main(String[] args) {
        Checks c = new Checks("promise 15, queue");
        howMany(c);
        fromNoneToFour(c);
        noSession(c);
        noSuchRoles(c);
        notTwoRoles(c);
        c.finish();
    }

    private static void howMany(Checks c) {
        c.sentence("How many letters the queue from role p to q has");
        RoleSessions x = Checks.inSession("d>a{f0:a>d{f0:d>a{f0:d>b{f0:d>c{f0:e}}}}}");
        x.send(3, 0);
        c.due("queue(3, 0)", x.queue(3, 0), 1);
        c.due("queue(0, 3)", x.queue(0, 3), 0);
        x.receive(0);
        c.due("queue(3, 0)", x.queue(3, 0), 0);
        x.send(0, 0);
        c.due("queue(0, 3)", x.queue(0, 3), 1);
        x.receive(3);
        x.estrange(3);
        x.say(3, 0, 0, 0);
        x.say(3, 1, 0, 0);
        x.say(3, 2, 0, 0);
        c.due("queue(3, 0)", x.queue(3, 0), 1);
        c.due("queue(3, 1)", x.queue(3, 1), 1);
        c.due("queue(3, 2)", x.queue(3, 2), 1);
        c.due("queue(1, 3)", x.queue(1, 3), 0);
    }

    private static void fromNoneToFour(Checks c) {
        c.sentence("How many letters: 0 to 4");
        RoleSessions x = Checks.inSession("mX.c>b{f0:X}");
        c.due("none", x.queue(2, 1), 0);
        for (int k = 1; k <= 4; k++) {
            x.send(2, 0);
            c.due("more", x.queue(2, 1), k);
        }
        x.send(2, 0);
        c.due("no fifth", x.queue(2, 1), 4);
        for (int k = 3; k >= 0; k--) {
            x.receive(1);
            c.due("fewer", x.queue(2, 1), k);
        }
        x.receive(1);
        c.due("not below none", x.queue(2, 1), 0);
    }

    private static void noSession(Checks c) {
        c.sentence("BAD when there is no session");
        RoleSessions x = Checks.withProtocol("a>b{f0:e}");
        c.due("queue(0, 1)", x.queue(0, 1), BAD);
        x.begin();
        c.due("queue(0, 1)", x.queue(0, 1), 0);
        c.processDue(x, 2, "e", 1);
        c.due("queue(0, 1) behind the session", x.queue(0, 1), BAD);
    }

    private static void noSuchRoles(Checks c) {
        c.sentence("BAD when there are no such two roles");
        RoleSessions x = Checks.inSession("mX.b>a{f0:X}");
        x.send(1, 0);
        for (int n : new int[] {-1, 4, 5, 256, Integer.MIN_VALUE, Integer.MAX_VALUE}) {
            for (int r = 0; r < 4; r++) {
                c.due("queue(" + n + ", " + r + ")", x.queue(n, r), BAD);
                c.due("queue(" + r + ", " + n + ")", x.queue(r, n), BAD);
            }
            c.due("queue(" + n + ", " + n + ")", x.queue(n, n), BAD);
        }
        c.due("queue(2, -4)", x.queue(2, -4), BAD);
    }

    private static void notTwoRoles(Checks c) {
        c.sentence("no such two roles: one alone are not two");
        RoleSessions x = Checks.inSession("a>b{f0:e}");
        for (int p = 0; p < 4; p++) {
            for (int q = 0; q < 4; q++) {
                c.due("queue(" + p + ", " + q + ")", x.queue(p, q), p == q ? BAD : 0);
            }
        }
    }
}
