public final class Promise15QueueTest {
    public static void main(String[] args) {
        Checks c = new Checks("promise 15, queue");
        RoleSessions x = Checks.withProtocol("d>a{f0:a>d{f0:d>a{f0:d>b{f0:d>c{f0:e}}}}}");
        c.due("queue(0, 1) without a session", x.queue(0, 1), RoleSessions.BAD);
        x.begin();
        for (int p = 0; p < 4; p++) {
            for (int q = 0; q < 4; q++) {
                c.due("queue(" + p + ", " + q + ")", x.queue(p, q), p == q ? RoleSessions.BAD : 0);
            }
        }
        int[] beside = {-1, 4, Integer.MIN_VALUE, Integer.MAX_VALUE};
        for (int n : beside) {
            c.due("queue(" + n + ", 0)", x.queue(n, 0), RoleSessions.BAD);
            c.due("queue(0, " + n + ")", x.queue(0, n), RoleSessions.BAD);
            c.due("queue(" + n + ", " + n + ")", x.queue(n, n), RoleSessions.BAD);
        }
        x.send(3, 0);
        c.due("queue(3, 0)", x.queue(3, 0), 1);
        c.due("queue(0, 3)", x.queue(0, 3), 0);
        x.receive(0);
        c.due("queue(3, 0)", x.queue(3, 0), 0);
        x.send(0, 0);
        c.due("queue(0, 3)", x.queue(0, 3), 1);
        x.receive(3);
        x.estrange(3);
        x.say(3, 0, 0, 0);
        x.say(3, 1, 0, 0);
        x.say(3, 2, 0, 0);
        c.due("queue(3, 0)", x.queue(3, 0), 1);
        c.due("queue(3, 1)", x.queue(3, 1), 1);
        c.due("queue(3, 2)", x.queue(3, 2), 1);
        c.due("queue(1, 3)", x.queue(1, 3), 0);
        c.finish();
    }
}
