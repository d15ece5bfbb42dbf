/** A first letter that doesn't fit: see OutOfReachTest. */
public final class Promise16ReadyTest {
    public static void main(String[] args) {
        Checks c = new Checks("promise 16, ready");
        senders(c);
        receivers(c);
        noRoom(c);
        nobody(c);
        allFour(c);
        strangeOnes(c);
        noSession(c);
        c.finish();
    }

    private static void senders(Checks c) {
        c.sentence("one that sends (any label) with room in the queue");
        c.due("one", Checks.inSession("a>b{f0:e}").ready(), 1);
        c.due("one, whatever it could send", Checks.inSession("a>b{f0:e,g0:e,k2:e}").ready(), 1);
        c.due("two", Checks.inSession("a>b{f0:c>d{f0:e}}").ready(), 2);
        c.due("the last role", Checks.inSession("d>c{f0:e}").ready(), 1);
    }

    private static void receivers(Checks c) {
        c.sentence("or receives with a first letter there that fits");
        RoleSessions x = Checks.inSession("a>b{f0:c>d{f0:e}}");
        x.send(0, 0);
        c.due("one can send, one receive", x.ready(), 2);
        x.send(2, 0);
        c.due("two can receive", x.ready(), 2);
        x.receive(1);
        c.due("one can receive", x.ready(), 1);
        x.receive(3);
        c.due("all are at an end", x.ready(), 0);
        // a letter from one that is not its partner now
        x = Checks.inSession("a>c{f0:b>c{f0:e}}");
        x.send(1, 0);
        c.due("c waits for a", x.ready(), 1);
        x.send(0, 0);
        c.due("c can receive", x.ready(), 1);
        x.receive(2);
        c.due("c can receive again", x.ready(), 1);
    }

    private static void noRoom(Checks c) {
        c.sentence("with room in the queue");
        RoleSessions x = Checks.inSession("mX.a>b{f0:X}");
        c.due("one can send", x.ready(), 1);
        for (int k = 0; k < 3; k++) {
            x.send(0, 0);
            c.due("one can send, one receive", x.ready(), 2);
        }
        x.send(0, 0);
        c.due("the queue has no room", x.ready(), 1);
        x.receive(1);
        c.due("it has room again", x.ready(), 2);
    }

    private static void nobody(Checks c) {
        c.sentence("How many roles can do something now: none");
        c.due("ends", Checks.inSession("e").ready(), 0);
        c.due("ends of loops", Checks.inSession("mX.mY.e").ready(), 0);
    }

    private static void allFour(Checks c) {
        c.sentence("How many roles can do something now: all");
        RoleSessions x = Checks.inSession("mX.a>b{f0:c>d{f0:X}}");
        c.due("two send", x.ready(), 2);
        x.send(0, 0);
        x.send(2, 0);
        c.due("two send, two receive", x.ready(), 4);
    }

    private static void strangeOnes(Checks c) {
        c.sentence("strange ones by the monitor's state");
        RoleSessions x = Checks.inSession("a>b{f0:b>a{f0:e}}");
        x.estrange(0);
        c.due("the monitor's state could send", x.ready(), 1);
        x.say(0, 1, 5, 0);
        c.due("a fault changes nothing of it", x.ready(), 1);
        x.say(0, 1, 0, 0);
        c.due("the other can receive", x.ready(), 1);
        x.estrange(1);
        c.due("that one strange as well", x.ready(), 1);
        x.take(1, 0);
        c.due("it could answer", x.ready(), 1);
        x.say(1, 0, 0, 0);
        c.due("the answer could be taken", x.ready(), 1);
        x.take(0, 1);
        c.due("all are at an end", x.ready(), 0);
        x = Checks.inSession("mX.a>b{f0:X}");
        x.estrange(0);
        for (int k = 0; k < 4; k++) {
            x.say(0, 1, 0, 0);
        }
        c.due("no room for a strange one", x.ready(), 1);
    }

    private static void noSession(Checks c) {
        c.sentence("-1 when there is no session");
        c.due("without a protocol", new RoleSessions().ready(), -1);
        RoleSessions x = Checks.withProtocol("a>b{f0:e}");
        c.due("before the session", x.ready(), -1);
        x.begin();
        Checks.typed(x, "e").protocol();
        c.due("behind the session", x.ready(), -1);
    }
}
