public final class Promise09SendTest {
    public static void main(String[] args) {
        Checks c = new Checks("promise 9, send");
        c.due("send(0, 0) without a session", Checks.withProtocol("a>b{f0:e}").send(0, 0), RoleSessions.BAD);
        ordinary(c);
        aFullQueue(c);
        strangeOnes(c);
        c.finish();
    }

    private static void ordinary(Checks c) {
        RoleSessions x = Checks.inSession("mX.a>b{f0:b>a{g0:X},h1:e}");
        int[] beside = {-1, 6, Integer.MIN_VALUE, Integer.MAX_VALUE};
        for (int n : beside) {
            c.due("send(" + n + ", 0)", x.send(n, 0), RoleSessions.BAD);
            c.due("send(0, " + n + ")", x.send(0, n), RoleSessions.BAD);
        }
        c.due("send(4, 0)", x.send(4, 0), RoleSessions.BAD);
        c.due("send of a label that isn't there", x.send(0, 1), RoleSessions.REFUSED);
        c.due("send of one that receives", x.send(1, 0), RoleSessions.REFUSED);
        c.due("send at an end", x.send(2, 0), RoleSessions.REFUSED);
        c.due("size(3)", x.size(3), 0);
        c.due("queue(0, 1)", x.queue(0, 1), 0);
        c.due("send(0, 0)", x.send(0, 0), 1);
        c.due("queue(0, 1)", x.queue(0, 1), 1);
        c.due("queue(1, 0)", x.queue(1, 0), 0);
        c.due("at(0, 0)", x.at(0, 0), 1);
        c.due("send of one that receives now", x.send(0, 0), RoleSessions.REFUSED);
        c.due("receive(1)", x.receive(1), 1);
        c.due("send(1, 1)", x.send(1, 1), 0);
        c.due("receive(0)", x.receive(0), 0);
        c.due("send(0, 2)", x.send(0, 2), 2);
        c.due("send at the end", x.send(0, 2), RoleSessions.REFUSED);
    }

    private static void aFullQueue(Checks c) {
        RoleSessions x = Checks.inSession("mX.a>b{f0:X,g0:b>a{f0:e}}");
        for (int k = 0; k < 4; k++) {
            c.due("send(0, 0)", x.send(0, 0), 0);
        }
        c.due("send to a full queue", x.send(0, 0), RoleSessions.WAIT);
        c.due("send of another label to a full queue", x.send(0, 1), RoleSessions.WAIT);
        c.due("send of a label that isn't there", x.send(0, 2), RoleSessions.REFUSED);
        c.due("at(0, 0)", x.at(0, 0), 0);
        c.due("queue(0, 1)", x.queue(0, 1), 4);
        c.due("size(3)", x.size(3), 4);
        c.due("receive(1)", x.receive(1), 0);
        c.due("send(0, 1)", x.send(0, 1), 1);
        c.due("queue(0, 1)", x.queue(0, 1), 4);
        c.due("size(3)", x.size(3), 5);
    }

    private static void strangeOnes(Checks c) {
        RoleSessions x = Checks.inSession("a>b{f0:e}");
        x.estrange(0);
        c.due("send of a strange one", x.send(0, 0), RoleSessions.REFUSED);
        c.due("its faults", x.at(0, 1), 0);
        c.due("send of a strange one without a label", x.send(0, 6), RoleSessions.BAD);
    }
}
