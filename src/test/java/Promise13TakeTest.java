public final class Promise13TakeTest {
    public static void main(String[] args) {
        Checks c = new Checks("promise 13, take");
        c.due("take without a session", Checks.withProtocol("a>b{f0:e}").take(1, 0), RoleSessions.BAD);
        ranges(c);
        faults(c);
        letThrough(c);
        c.finish();
    }

    private static void ranges(Checks c) {
        RoleSessions x = Checks.inSession("a>b{f0:e}");
        c.due("take of one that isn't strange", x.take(1, 0), RoleSessions.BAD);
        x.estrange(1);
        int[] beside = {-1, 4, Integer.MIN_VALUE, Integer.MAX_VALUE};
        for (int n : beside) {
            c.due("take(" + n + ", 0)", x.take(n, 0), RoleSessions.BAD);
            c.due("take(1, " + n + ")", x.take(1, n), RoleSessions.BAD);
        }
        c.due("take from itself", x.take(1, 1), RoleSessions.BAD);
        c.due("no faults", x.at(1, 1), 0);
    }

    private static void faults(Checks c) {
        RoleSessions x = Checks.inSession("a>b{f0:c>b{g0:e}}");
        x.estrange(0);
        x.estrange(1);
        x.estrange(3);
        x.send(2, 1);
        c.due("take from another role, though it has sent", x.take(1, 2), RoleSessions.REFUSED);
        c.due("take where it sends", x.take(0, 1), RoleSessions.REFUSED);
        c.due("take at an end", x.take(3, 1), RoleSessions.REFUSED);
        c.due("take from an empty queue", x.take(1, 0), RoleSessions.WAIT);
        c.due("that is no fault", x.at(1, 1), 1);
        c.due("the faults of a", x.at(0, 1), 1);
        c.due("the faults of d", x.at(3, 1), 1);
        c.due("queue(2, 1)", x.queue(2, 1), 1);
        c.due("at(1, 0)", x.at(1, 0), 0);
    }

    private static void letThrough(Checks c) {
        RoleSessions x = Checks.inSession("a>b{f0:c>b{g0:e}}");
        x.estrange(1);
        x.send(2, 1);
        x.send(0, 0);
        c.due("take(1, 0)", x.take(1, 0), 1);
        c.due("at(1, 0)", x.at(1, 0), 1);
        c.due("queue(0, 1)", x.queue(0, 1), 0);
        c.due("queue(2, 1)", x.queue(2, 1), 1);
        c.due("take(1, 0) once more", x.take(1, 0), RoleSessions.REFUSED);
        c.due("take(1, 2)", x.take(1, 2), 2);
        c.due("at(1, 1)", x.at(1, 1), 1);
        c.due("size(3)", x.size(3), 2);
    }
}
