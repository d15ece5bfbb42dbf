public final class Promise12SayTest {
    private static final int BAD = RoleSessions.BAD;
    private static final int REFUSED = RoleSessions.REFUSED;
    private static final int WAIT = RoleSessions.WAIT;
    private static final int[] FAR = {256, Integer.MIN_VALUE, Integer.MAX_VALUE};

    public static void main(String[] args) {
        Checks c = new Checks("promise 12, say");
        letThrough(c);
        noSession(c);
        noRole(c);
        theTwoAreOne(c);
        noLabel(c);
        noSort(c);
        notStrange(c);
        faults(c);
        aFaultBeforeTheQueue(c);
        theQueueHasFour(c);
        c.finish();
    }

    private static RoleSessions strange(String text, int r) {
        RoleSessions x = Checks.inSession(text);
        x.estrange(r);
        return x;
    }

    private static void letThrough(Checks c) {
        c.sentence("A strange role says a letter to another role q. The monitor's new state");
        RoleSessions x = strange("a>b{f0:b>a{g0:e},h1:e}", 0);
        c.due("say(0, 1, 2, 1)", x.say(0, 1, 2, 1), 3);
        c.due("at(0, 0)", x.at(0, 0), 3);
        c.due("at(0, 1)", x.at(0, 1), 0);
        c.due("queue(0, 1)", x.queue(0, 1), 1);
        c.due("size(3)", x.size(3), 1);
        c.due("receive(1)", x.receive(1), 3);
        x = strange("d>a{k2:e}", 3);
        c.due("say(3, 0, 5, 2)", x.say(3, 0, 5, 2), 1);
        c.due("receive(0)", x.receive(0), 1);
    }

    private static void noSession(Checks c) {
        c.sentence("BAD when there is no session");
        RoleSessions x = Checks.withProtocol("a>b{f0:e}");
        c.due("say(0, 1, 0, 0)", x.say(0, 1, 0, 0), BAD);
        x.begin();
        x.estrange(0);
        Checks.typed(x, "a>b{f0:e}").protocol();
        c.due("say(0, 1, 0, 0) behind the session", x.say(0, 1, 0, 0), BAD);
    }

    private static void noRole(Checks c) {
        c.sentence("BAD when there is no role");
        RoleSessions x = strange("a>b{f0:e}", 0);
        for (int r : new int[] {-1, 4, FAR[0], FAR[1], FAR[2]}) {
            c.due("say(" + r + ", 1, 0, 0)", x.say(r, 1, 0, 0), BAD);
            c.due("say(0, " + r + ", 0, 0)", x.say(0, r, 0, 0), BAD);
            c.due("say(" + r + ", " + r + ", 0, 0)", x.say(r, r, 0, 0), BAD);
        }
        c.due("no faults", x.at(0, 1), 0);
    }

    private static void theTwoAreOne(Checks c) {
        c.sentence("BAD when the two are one");
        for (int r = 0; r < 4; r++) {
            RoleSessions x = strange("a>b{f0:e}", r);
            c.due("say(" + r + ", " + r + ", 0, 0)", x.say(r, r, 0, 0), BAD);
            c.due("no faults", x.at(r, 1), 0);
        }
    }

    private static void noLabel(Checks c) {
        c.sentence("BAD when there is no label");
        RoleSessions x = strange("a>b{f0:e}", 0);
        for (int label : new int[] {-1, 6, FAR[0], FAR[1], FAR[2]}) {
            c.due("say(0, 1, " + label + ", 0)", x.say(0, 1, label, 0), BAD);
            c.due("say(0, 2, " + label + ", 0)", x.say(0, 2, label, 0), BAD);
        }
        c.due("no faults", x.at(0, 1), 0);
        c.due("say(0, 1, 5, 0)", x.say(0, 1, 5, 0), REFUSED);
    }

    private static void noSort(Checks c) {
        c.sentence("BAD when there is no sort");
        RoleSessions x = strange("a>b{f0:e,g0:e}", 0);
        for (int sort : new int[] {-1, 3, FAR[0], FAR[1], FAR[2]}) {
            c.due("say(0, 1, 0, " + sort + ")", x.say(0, 1, 0, sort), BAD);
            c.due("say(0, 1, 3, " + sort + ")", x.say(0, 1, 3, sort), BAD);
        }
        c.due("say(0, 1, 1, -3)", x.say(0, 1, 1, -3), BAD);
        c.due("no faults", x.at(0, 1), 0);
        c.due("say(0, 1, 0, 2)", x.say(0, 1, 0, 2), REFUSED);
    }

    private static void notStrange(Checks c) {
        c.sentence("BAD when it is not strange");
        RoleSessions x = strange("a>b{f0:e}", 1);
        c.due("what it could send", x.say(0, 1, 0, 0), BAD);
        c.due("what it could not", x.say(0, 2, 3, 1), BAD);
        c.due("of one at its end", x.say(2, 1, 0, 0), BAD);
        c.due("no faults", x.at(0, 1) + x.at(2, 1), 0);
        c.due("size(3)", x.size(3), 0);
        c.due("send(0, 0)", x.send(0, 0), 1);
    }

    private static void faults(Checks c) {
        c.sentence("REFUSED: a fault");
        RoleSessions x = Checks.inSession("a>b{f0:b>a{g0:e},h1:e}");
        x.estrange(0);
        x.estrange(1);
        x.estrange(3);
        c.due("to another role", x.say(0, 2, 0, 0), REFUSED);
        c.due("another label", x.say(0, 1, 1, 0), REFUSED);
        c.due("another sort", x.say(0, 1, 0, 1), REFUSED);
        c.due("the label of one, the sort of another", x.say(0, 1, 2, 0), REFUSED);
        c.due("the faults", x.at(0, 1), 4);
        c.due("where it receives", x.say(1, 0, 0, 0), REFUSED);
        c.due("at an end", x.say(3, 0, 0, 0), REFUSED);
        c.due("the faults of b", x.at(1, 1), 1);
        c.due("the faults of d", x.at(3, 1), 1);
        c.due("the faults of c", x.at(2, 1), 0);
        c.due("nothing else is done", x.at(0, 0), 0);
        c.due("queue(0, 1)", x.queue(0, 1), 0);
        c.due("size(3)", x.size(3), 0);
    }

    private static RoleSessions fullQueue() {
        RoleSessions x = strange("mX.a>b{f0:X,g0:e}", 0);
        for (int k = 0; k < 4; k++) {
            x.say(0, 1, 0, 0);
        }
        return x;
    }

    private static void aFaultBeforeTheQueue(Checks c) {
        c.sentence("REFUSED: a fault; then WAIT");
        RoleSessions x = fullQueue();
        c.due("another sort", x.say(0, 1, 1, 1), REFUSED);
        c.due("another label", x.say(0, 1, 2, 0), REFUSED);
        c.due("another role", x.say(0, 3, 0, 0), REFUSED);
        c.due("at(0, 1)", x.at(0, 1), 3);
        c.due("queue(0, 1)", x.queue(0, 1), 4);
    }

    private static void theQueueHasFour(Checks c) {
        c.sentence("WAIT when the queue has four");
        RoleSessions x = strange("mX.a>b{f0:X,g0:e}", 0);
        for (int k = 1; k <= 4; k++) {
            c.due("say(0, 1, 0, 0)", x.say(0, 1, 0, 0), 0);
            c.due("queue(0, 1)", x.queue(0, 1), k);
        }
        c.due("a fifth", x.say(0, 1, 0, 0), WAIT);
        c.due("another one", x.say(0, 1, 1, 0), WAIT);
        c.due("that is no fault", x.at(0, 1), 0);
        c.due("at(0, 0)", x.at(0, 0), 0);
        c.due("size(3)", x.size(3), 4);
        x.receive(1);
        c.due("say(0, 1, 1, 0)", x.say(0, 1, 1, 0), 1);
        c.due("size(3)", x.size(3), 5);
    }
}
