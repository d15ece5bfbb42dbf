/** The answer MISFIT: see OutOfReachTest. */
public final class Promise10ReceiveTest {
    private static final int BAD = RoleSessions.BAD;
    private static final int REFUSED = RoleSessions.REFUSED;
    private static final int WAIT = RoleSessions.WAIT;
    private static final String ASKING = "mX.a>b{f0:b>a{g0:X},h1:e}";

    public static void main(String[] args) {
        Checks c = new Checks("promise 10, receive");
        receives(c);
        inTheOrderOfSending(c);
        noSession(c);
        noRole(c);
        strangeOnes(c);
        doesNotReceive(c);
        theQueueIsEmpty(c);
        c.finish();
    }

    private static void receives(Checks c) {
        c.sentence("Role r receives. Its new state");
        RoleSessions x = Checks.inSession(ASKING);
        c.due("send(0, 0)", x.send(0, 0), 1);
        c.due("receive(1)", x.receive(1), 1);
        c.due("at(1, 0)", x.at(1, 0), 1);
        c.due("queue(0, 1)", x.queue(0, 1), 0);
        c.due("size(3)", x.size(3), 1);
        c.due("send(1, 1)", x.send(1, 1), 0);
        c.due("receive(0)", x.receive(0), 0);
        c.due("send(0, 2)", x.send(0, 2), 2);
        c.due("receive(1)", x.receive(1), 2);
        c.due("at(1, 0)", x.at(1, 0), 2);
    }

    private static void inTheOrderOfSending(Checks c) {
        c.sentence("the first letter of the queue from its partner is taken");
        RoleSessions x = Checks.inSession("a>b{f0:a>b{g1:a>b{h2:a>b{i0:a>b{j1:e}}}}}");
        for (int label = 0; label < 4; label++) {
            c.due("send(0, " + label + ")", x.send(0, label), label + 1);
        }
        c.due("receive(1)", x.receive(1), 1);
        c.due("send(0, 4)", x.send(0, 4), 5);
        for (int s = 2; s <= 5; s++) {
            c.due("queue(0, 1)", x.queue(0, 1), 6 - s);
            c.due("receive(1)", x.receive(1), s);
        }
        c.due("queue(0, 1)", x.queue(0, 1), 0);
    }

    private static void noSession(Checks c) {
        c.sentence("BAD when there is no session");
        RoleSessions x = Checks.withProtocol("a>b{f0:e}");
        c.due("receive(1)", x.receive(1), BAD);
        x.begin();
        x.send(0, 0);
        Checks.typed(x, "a>b{f0:e}").protocol();
        c.due("receive(1) behind the session", x.receive(1), BAD);
    }

    private static void noRole(Checks c) {
        c.sentence("BAD when there is no role");
        RoleSessions x = Checks.inSession(ASKING);
        for (int r : new int[] {-1, 4, 5, 256, Integer.MIN_VALUE, Integer.MAX_VALUE}) {
            c.due("receive(" + r + ")", x.receive(r), BAD);
        }
        c.due("receive(3)", x.receive(3), REFUSED);
    }

    private static void strangeOnes(Checks c) {
        c.sentence("REFUSED when it is strange");
        RoleSessions x = Checks.inSession("a>b{f0:e}");
        x.estrange(1);
        c.due("of an empty queue", x.receive(1), REFUSED);
        x.send(0, 0);
        c.due("of a letter that is there", x.receive(1), REFUSED);
        c.due("its faults", x.at(1, 1), 0);
        c.due("queue(0, 1)", x.queue(0, 1), 1);
    }

    private static void doesNotReceive(Checks c) {
        c.sentence("REFUSED when its state doesn't receive");
        RoleSessions x = Checks.inSession(ASKING);
        c.due("of one that sends", x.receive(0), REFUSED);
        c.due("at an end", x.receive(3), REFUSED);
        x.send(0, 2);
        c.due("receive(1)", x.receive(1), 2);
        c.due("at the end", x.receive(1), REFUSED);
        c.due("of the other at the end", x.receive(0), REFUSED);
        // a letter is there, but it must send first
        x = Checks.inSession("a>b{f0:b>a{f0:e}}");
        x.send(0, 0);
        x.receive(1);
        x.send(1, 0);
        c.due("receive(1)", x.receive(1), REFUSED);
        c.due("receive(0)", x.receive(0), 2);
    }

    private static void theQueueIsEmpty(Checks c) {
        c.sentence("WAIT when the queue is empty");
        RoleSessions x = Checks.inSession(ASKING);
        c.due("receive(1)", x.receive(1), WAIT);
        c.due("at(1, 0)", x.at(1, 0), 0);
        x.send(0, 0);
        c.due("receive(0)", x.receive(0), WAIT);
        x.receive(1);
        x.send(1, 1);
        x.receive(0);
        c.due("receive(1) of an emptied queue", x.receive(1), WAIT);
        // another one has sent
        x = Checks.inSession("a>c{f0:b>c{g0:e}}");
        x.send(1, 1);
        c.due("receive(2)", x.receive(2), WAIT);
        c.due("queue(1, 2)", x.queue(1, 2), 1);
    }
}
