/** The answer MISFIT: see OutOfReachTest. */
public final class Promise13TakeTest {
    private static final int BAD = RoleSessions.BAD;
    private static final int REFUSED = RoleSessions.REFUSED;
    private static final int WAIT = RoleSessions.WAIT;

    public static void main(String[] args) {
        Checks c = new Checks("promise 13, take");
        takes(c);
        noSession(c);
        noRole(c);
        theTwoAreOne(c);
        notStrange(c);
        faults(c);
        aFaultBeforeTheQueue(c);
        theQueueIsEmpty(c);
        c.finish();
    }

    private static RoleSessions strange(String text, int r) {
        RoleSessions x = Checks.inSession(text);
        x.estrange(r);
        return x;
    }

    private static void takes(Checks c) {
        c.sentence("A strange role takes the first letter from role p. The monitor's new state");
        RoleSessions x = strange("a>b{f0:a>b{f0:e,g0:e},g0:e}", 1);
        x.send(0, 0);
        x.send(0, 1);
        c.due("take(1, 0)", x.take(1, 0), 1);
        c.due("at(1, 0)", x.at(1, 0), 1);
        c.due("queue(0, 1)", x.queue(0, 1), 1);
        c.due("take(1, 0)", x.take(1, 0), 3);
        c.due("queue(0, 1)", x.queue(0, 1), 0);
        c.due("at(1, 1)", x.at(1, 1), 0);
        c.due("size(3)", x.size(3), 2);
    }

    private static void noSession(Checks c) {
        c.sentence("BAD likewise: no session");
        RoleSessions x = Checks.withProtocol("a>b{f0:e}");
        c.due("take(1, 0)", x.take(1, 0), BAD);
        x.begin();
        x.estrange(1);
        x.send(0, 0);
        Checks.typed(x, "a>b{f0:e}").protocol();
        c.due("take(1, 0) behind the session", x.take(1, 0), BAD);
    }

    private static void noRole(Checks c) {
        c.sentence("BAD likewise: no role");
        RoleSessions x = strange("a>b{f0:e}", 1);
        x.send(0, 0);
        for (int r : new int[] {-1, 4, 256, Integer.MIN_VALUE, Integer.MAX_VALUE}) {
            c.due("take(" + r + ", 0)", x.take(r, 0), BAD);
            c.due("take(1, " + r + ")", x.take(1, r), BAD);
            c.due("take(" + r + ", " + r + ")", x.take(r, r), BAD);
        }
        c.due("no faults", x.at(1, 1), 0);
        c.due("queue(0, 1)", x.queue(0, 1), 1);
    }

    private static void theTwoAreOne(Checks c) {
        c.sentence("BAD likewise: the two are one");
        for (int r = 0; r < 4; r++) {
            RoleSessions x = strange("a>b{f0:e}", r);
            c.due("take(" + r + ", " + r + ")", x.take(r, r), BAD);
            c.due("no faults", x.at(r, 1), 0);
        }
    }

    private static void notStrange(Checks c) {
        c.sentence("BAD likewise: it is not strange");
        RoleSessions x = strange("a>b{f0:e}", 0);
        c.due("of an empty queue", x.take(1, 0), BAD);
        x.say(0, 1, 0, 0);
        c.due("of a letter that is there", x.take(1, 0), BAD);
        c.due("where it doesn't receive", x.take(2, 0), BAD);
        c.due("from another", x.take(1, 2), BAD);
        c.due("no faults", x.at(1, 1) + x.at(2, 1), 0);
        c.due("receive(1)", x.receive(1), 1);
    }

    private static void faults(Checks c) {
        c.sentence("REFUSED: a fault (its machine's state doesn't receive from p)");
        RoleSessions x = Checks.inSession("a>b{f0:c>b{g0:e}}");
        x.estrange(0);
        x.estrange(1);
        x.estrange(3);
        x.send(2, 1);
        c.due("from another role, though it has sent", x.take(1, 2), REFUSED);
        c.due("where it sends", x.take(0, 1), REFUSED);
        c.due("at an end", x.take(3, 1), REFUSED);
        for (int r = 0; r < 4; r++) {
            c.due("at(" + r + ", 1)", x.at(r, 1), r == 2 ? 0 : 1);
        }
        c.due("queue(2, 1)", x.queue(2, 1), 1);
        c.due("at(1, 0)", x.at(1, 0), 0);
        x.say(0, 1, 0, 0);
        c.due("take(1, 0)", x.take(1, 0), 1);
        c.due("take(1, 0) once more", x.take(1, 0), REFUSED);
        c.due("take(1, 2)", x.take(1, 2), 2);
        c.due("take(1, 2) at the end", x.take(1, 2), REFUSED);
        c.due("at(1, 1)", x.at(1, 1), 3);
    }

    private static void aFaultBeforeTheQueue(Checks c) {
        c.sentence("REFUSED: a fault; then WAIT");
        RoleSessions x = strange("a>b{f0:e}", 1);
        c.due("of an empty queue of another", x.take(1, 2), REFUSED);
        c.due("of an empty queue of one more", x.take(1, 3), REFUSED);
        c.due("at(1, 1)", x.at(1, 1), 2);
    }

    private static void theQueueIsEmpty(Checks c) {
        c.sentence("WAIT when the queue is empty");
        RoleSessions x = strange("mX.a>b{f0:X}", 1);
        c.due("take(1, 0)", x.take(1, 0), WAIT);
        c.due("that is no fault", x.at(1, 1), 0);
        c.due("at(1, 0)", x.at(1, 0), 0);
        x.send(0, 0);
        c.due("take(1, 0)", x.take(1, 0), 0);
        c.due("take(1, 0) of an emptied queue", x.take(1, 0), WAIT);
        c.due("that is no fault", x.at(1, 1), 0);
    }
}
