public final class Promise01NewObjectTest {
    private static final int BAD = RoleSessions.BAD;

    public static void main(String[] args) {
        Checks c = new Checks("promise 1, a new object");
        noProtocol(c);
        anEmptyText(c);
        noSession(c);
        objectsShareNothing(c);
        theConstants(c);
        c.finish();
    }

    private static void noProtocol(Checks c) {
        c.sentence("No protocol");
        RoleSessions x = new RoleSessions();
        c.due("size(1)", x.size(1), 0);
        for (int r = 0; r < 4; r++) {
            c.due("part(" + r + ")", x.part(r), BAD);
            c.due("state(" + r + ", 0, 0)", x.state(r, 0, 0), BAD);
            c.due("label(" + r + ", 0, 0, 0)", x.label(r, 0, 0, 0), BAD);
            c.due("process(" + r + ")", x.process(r), BAD);
        }
        c.due("begin()", x.begin(), false);
    }

    private static void anEmptyText(Checks c) {
        c.sentence("an empty text");
        RoleSessions x = new RoleSessions();
        c.due("size(0)", x.size(0), 0);
        c.due("protocol() of it", x.protocol(), -100);
        c.due("size(1)", x.size(1), 0);
        c.due("type", new RoleSessions().type('e'), 1);
    }

    private static void noSession(Checks c) {
        c.sentence("no session is there on a new object");
        RoleSessions x = new RoleSessions();
        c.due("size(2)", x.size(2), 0);
        c.due("size(3)", x.size(3), 0);
        c.due("ready()", x.ready(), -1);
        for (int r = 0; r < 4; r++) {
            c.due("send(" + r + ", 0)", x.send(r, 0), BAD);
            c.due("receive(" + r + ")", x.receive(r), BAD);
            c.due("estrange(" + r + ")", x.estrange(r), false);
            c.due("say(" + r + ", .., 0, 0)", x.say(r, (r + 1) % 4, 0, 0), BAD);
            c.due("take(" + r + ", ..)", x.take(r, (r + 1) % 4), BAD);
            c.due("at(" + r + ", 0)", x.at(r, 0), BAD);
            c.due("queue(" + r + ", ..)", x.queue(r, (r + 1) % 4), BAD);
        }
    }

    private static void objectsShareNothing(Checks c) {
        c.sentence("a new object: whatever others have");
        RoleSessions one = Checks.inSession("a>b{f0:e}");
        RoleSessions two = new RoleSessions();
        one.type('e');
        one.send(0, 0);
        for (int what = 0; what < 4; what++) {
            c.due("size(" + what + ") of another object", two.size(what), 0);
        }
        RoleSessions three = Checks.inSession("a>b{f0:e}");
        c.due("queue(0, 1) of another object", three.queue(0, 1), 0);
        c.due("queue(0, 1) of the first", one.queue(0, 1), 1);
    }

    private static void theConstants(Checks c) {
        c.sentence("BAD = -1, REFUSED = -2, WAIT = -3, MISFIT = -4");
        c.due("BAD", RoleSessions.BAD, -1);
        c.due("REFUSED", RoleSessions.REFUSED, -2);
        c.due("WAIT", RoleSessions.WAIT, -3);
        c.due("MISFIT", RoleSessions.MISFIT, -4);
    }
}
