public final class Promise16ReadyTest {
    public static void main(String[] args) {
        Checks c = new Checks("promise 16, ready");
        c.due("ready() without a session", Checks.withProtocol("e").ready(), -1);
        c.due("ready() of ends", Checks.inSession("e").ready(), 0);
        sendersAndReceivers(c);
        aFullQueue(c);
        strangeOnes(c);
        c.finish();
    }

    private static void sendersAndReceivers(Checks c) {
        RoleSessions x = Checks.inSession("a>b{f0:c>d{f0:e}}");
        c.due("two can send", x.ready(), 2);
        x.send(0, 0);
        c.due("one can send, one receive", x.ready(), 2);
        x.send(2, 0);
        c.due("two can receive", x.ready(), 2);
        x.receive(1);
        c.due("one can receive", x.ready(), 1);
        x.receive(3);
        c.due("all are at an end", x.ready(), 0);
    }

    private static void aFullQueue(Checks c) {
        RoleSessions x = Checks.inSession("mX.a>b{f0:X}");
        c.due("one can send", x.ready(), 1);
        for (int k = 0; k < 3; k++) {
            x.send(0, 0);
            c.due("one can send, one receive", x.ready(), 2);
        }
        x.send(0, 0);
        c.due("the queue has no room", x.ready(), 1);
        x.receive(1);
        c.due("it has room again", x.ready(), 2);
    }

    private static void strangeOnes(Checks c) {
        RoleSessions x = Checks.inSession("a>b{f0:b>a{f0:e}}");
        x.estrange(0);
        c.due("the monitor's state could send", x.ready(), 1);
        x.say(0, 1, 0, 0);
        c.due("the other can receive", x.ready(), 1);
        x.estrange(1);
        c.due("that one strange as well", x.ready(), 1);
        x.take(1, 0);
        c.due("it could answer", x.ready(), 1);
        x.say(1, 0, 0, 0);
        c.due("the answer could be taken", x.ready(), 1);
        x.take(0, 1);
        c.due("all are at an end", x.ready(), 0);
    }
}
