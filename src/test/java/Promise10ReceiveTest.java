public final class Promise10ReceiveTest {
    public static void main(String[] args) {
        Checks c = new Checks("promise 10, receive");
        c.due("receive(1) without a session", Checks.withProtocol("a>b{f0:e}").receive(1), RoleSessions.BAD);
        ordinary(c);
        inTheOrderOfSending(c);
        fromItsPartnerAlone(c);
        strangeOnes(c);
        c.finish();
    }

    private static void ordinary(Checks c) {
        RoleSessions x = Checks.inSession("mX.a>b{f0:b>a{g0:X},h1:e}");
        int[] beside = {-1, 4, Integer.MIN_VALUE, Integer.MAX_VALUE};
        for (int n : beside) {
            c.due("receive(" + n + ")", x.receive(n), RoleSessions.BAD);
        }
        c.due("receive of one that sends", x.receive(0), RoleSessions.REFUSED);
        c.due("receive at an end", x.receive(3), RoleSessions.REFUSED);
        c.due("receive from an empty queue", x.receive(1), RoleSessions.WAIT);
        c.due("at(1, 0)", x.at(1, 0), 0);
        c.due("send(0, 2)", x.send(0, 2), 2);
        c.due("receive(1)", x.receive(1), 2);
        c.due("at(1, 0)", x.at(1, 0), 2);
        c.due("queue(0, 1)", x.queue(0, 1), 0);
        c.due("size(3)", x.size(3), 1);
        c.due("receive at the end", x.receive(1), RoleSessions.REFUSED);
    }

    private static void inTheOrderOfSending(Checks c) {
        RoleSessions x = Checks.inSession("a>b{f0:a>b{g1:a>b{h2:a>b{i0:a>b{j1:e}}}}}");
        for (int label = 0; label < 4; label++) {
            c.due("send(0, " + label + ")", x.send(0, label), label + 1);
        }
        c.due("receive(1)", x.receive(1), 1);
        c.due("send(0, 4)", x.send(0, 4), 5);
        for (int s = 2; s <= 5; s++) {
            c.due("queue(0, 1)", x.queue(0, 1), 6 - s);
            c.due("receive(1)", x.receive(1), s);
        }
        c.due("queue(0, 1)", x.queue(0, 1), 0);
    }

    private static void fromItsPartnerAlone(Checks c) {
        RoleSessions x = Checks.inSession("a>c{f0:b>c{g0:c>d{h0:e}}}");
        c.due("send(1, 1)", x.send(1, 1), 1);
        c.due("receive where another one has sent", x.receive(2), RoleSessions.WAIT);
        c.due("send(0, 0)", x.send(0, 0), 1);
        c.due("receive(2)", x.receive(2), 1);
        c.due("receive(2)", x.receive(2), 2);
        c.due("receive(3)", x.receive(3), RoleSessions.WAIT);
        c.due("send(2, 2)", x.send(2, 2), 3);
        c.due("receive(3)", x.receive(3), 1);
    }

    private static void strangeOnes(Checks c) {
        RoleSessions x = Checks.inSession("a>b{f0:e}");
        x.send(0, 0);
        x.estrange(1);
        c.due("receive of a strange one", x.receive(1), RoleSessions.REFUSED);
        c.due("its faults", x.at(1, 1), 0);
        c.due("queue(0, 1)", x.queue(0, 1), 1);
    }
}
