public final class Promise09SendTest {
    private static final int BAD = RoleSessions.BAD;
    private static final int REFUSED = RoleSessions.REFUSED;
    private static final int WAIT = RoleSessions.WAIT;
    private static final String ASKING = "mX.a>b{f0:b>a{g0:X},h1:e}";
    private static final String STREAM = "mX.a>b{f0:X,g0:b>a{f0:e}}";

    public static void main(String[] args) {
        Checks c = new Checks("promise 9, send");
        sends(c);
        noSession(c);
        noRole(c);
        noLabel(c);
        strangeOnes(c);
        doesNotSend(c);
        noSuchLabel(c);
        theQueueHasFour(c);
        c.finish();
    }

    private static void sends(Checks c) {
        c.sentence("Role r sends the letter with this label (0 for f). Its new state");
        RoleSessions x = Checks.inSession(ASKING);
        c.due("send(0, 0)", x.send(0, 0), 1);
        c.due("at(0, 0)", x.at(0, 0), 1);
        c.due("queue(0, 1)", x.queue(0, 1), 1);
        c.due("queue(1, 0)", x.queue(1, 0), 0);
        c.due("size(3)", x.size(3), 1);
        c.due("receive(1)", x.receive(1), 1);
        c.due("send(1, 1)", x.send(1, 1), 0);
        c.due("receive(0)", x.receive(0), 0);
        c.due("send(0, 2)", x.send(0, 2), 2);
        c.due("size(3)", x.size(3), 3);
        x = Checks.inSession("d>c{f0:e,g0:e,h0:e,i0:e,j0:e,k0:e}");
        c.due("send(3, 5)", x.send(3, 5), 6);
    }

    private static void noSession(Checks c) {
        c.sentence("BAD when there is no session");
        RoleSessions x = Checks.withProtocol("a>b{f0:e}");
        c.due("send(0, 0)", x.send(0, 0), BAD);
        x.begin();
        c.processDue(x, 0, "b!{f0:e}", 2);
        c.due("send(0, 0) behind the session", x.send(0, 0), BAD);
        x.begin();
        c.due("send(0, 0)", x.send(0, 0), 1);
    }

    private static void noRole(Checks c) {
        c.sentence("BAD when there is no role");
        RoleSessions x = Checks.inSession(ASKING);
        for (int r : new int[] {-1, 4, 5, 256, Integer.MIN_VALUE, Integer.MAX_VALUE}) {
            c.due("send(" + r + ", 0)", x.send(r, 0), BAD);
        }
        c.due("send(3, 0)", x.send(3, 0), REFUSED);
    }

    private static void noLabel(Checks c) {
        c.sentence("BAD when there is no label");
        RoleSessions x = Checks.inSession(ASKING);
        for (int label : new int[] {-1, 6, 7, 256, Integer.MIN_VALUE, Integer.MAX_VALUE}) {
            for (int r = 0; r < 4; r++) {
                c.due("send(" + r + ", " + label + ")", x.send(r, label), BAD);
            }
        }
        x.estrange(0);
        c.due("send(0, 6) of a strange one", x.send(0, 6), BAD);
        x = fullQueue();
        c.due("send(0, 6) to a full queue", x.send(0, 6), BAD);
    }

    private static void strangeOnes(Checks c) {
        c.sentence("REFUSED when it is strange");
        RoleSessions x = Checks.inSession(ASKING);
        x.estrange(0);
        c.due("send(0, 0)", x.send(0, 0), REFUSED);
        c.due("its faults", x.at(0, 1), 0);
        c.due("queue(0, 1)", x.queue(0, 1), 0);
        x = fullQueue();
        x.estrange(0);
        c.due("send(0, 0) to a full queue", x.send(0, 0), REFUSED);
    }

    private static void doesNotSend(Checks c) {
        c.sentence("REFUSED when its state doesn't send");
        RoleSessions x = Checks.inSession(ASKING);
        c.due("of one that receives", x.send(1, 0), REFUSED);
        c.due("at an end", x.send(2, 0), REFUSED);
        x.send(0, 0);
        c.due("of one that receives now", x.send(0, 0), REFUSED);
        c.due("of one that could take a letter", x.send(1, 0), REFUSED);
        c.due("size(3)", x.size(3), 1);
        x = Checks.inSession("a>b{f0:e}");
        x.send(0, 0);
        c.due("at the end", x.send(0, 0), REFUSED);
    }

    private static void noSuchLabel(Checks c) {
        c.sentence("REFUSED when its state has no such label");
        for (int label = 0; label < 6; label++) {
            RoleSessions x = Checks.inSession(ASKING);
            boolean has = label == 0 || label == 2;
            c.due("whether send(0, " + label + ") is refused", x.send(0, label) == REFUSED, !has);
            c.due("size(3)", x.size(3), has ? 1 : 0);
        }
        // another state has it
        RoleSessions x = Checks.inSession("a>b{f0:a>b{g0:e}}");
        c.due("send(0, 1)", x.send(0, 1), REFUSED);
        c.due("send(0, 0)", x.send(0, 0), 1);
        c.due("send(0, 0)", x.send(0, 0), REFUSED);
        c.due("send(0, 1)", x.send(0, 1), 2);
        c.due("of a label that isn't there, to a full queue", fullQueue().send(0, 2), REFUSED);
    }

    private static RoleSessions fullQueue() {
        RoleSessions x = Checks.inSession(STREAM);
        for (int k = 0; k < 4; k++) {
            x.send(0, 0);
        }
        return x;
    }

    private static void theQueueHasFour(Checks c) {
        c.sentence("WAIT when the queue has four");
        RoleSessions x = Checks.inSession(STREAM);
        for (int k = 0; k < 4; k++) {
            c.due("send(0, 0)", x.send(0, 0), 0);
        }
        c.due("of a fifth", x.send(0, 0), WAIT);
        c.due("of another label", x.send(0, 1), WAIT);
        c.due("at(0, 0)", x.at(0, 0), 0);
        c.due("queue(0, 1)", x.queue(0, 1), 4);
        c.due("size(3)", x.size(3), 4);
        c.due("receive(1)", x.receive(1), 0);
        c.due("send(0, 1)", x.send(0, 1), 1);
        c.due("queue(0, 1)", x.queue(0, 1), 4);
        c.due("size(3)", x.size(3), 5);
        anotherQueueHasRoom(c);
    }

    private static void anotherQueueHasRoom(Checks c) {
        c.sentence("the queue: that to its partner");
        RoleSessions x = Checks.inSession("a>b{f0:a>b{f0:a>b{f0:a>b{f0:a>c{f0:a>b{f0:e}}}}}}");
        for (int k = 1; k <= 5; k++) {
            c.due("send " + k, x.send(0, 0), k);
        }
        c.due("a fifth to b", x.send(0, 0), WAIT);
        c.due("queue(0, 2)", x.queue(0, 2), 1);
    }
}
