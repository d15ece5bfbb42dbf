public final class Promise01NewObjectTest {
    public static void main(String[] args) {
        Checks c = new Checks("promise 1, a new object");
        RoleSessions x = new RoleSessions();
        for (int what = 0; what < 4; what++) {
            c.due("size(" + what + ")", x.size(what), 0);
        }
        for (int r = 0; r < 4; r++) {
            c.due("part(" + r + ")", x.part(r), RoleSessions.BAD);
            c.due("state(" + r + ", 0, 0)", x.state(r, 0, 0), RoleSessions.BAD);
            c.due("label(" + r + ", 0, 0, 0)", x.label(r, 0, 0, 0), RoleSessions.BAD);
            c.due("process(" + r + ")", x.process(r), RoleSessions.BAD);
        }
        c.due("begin()", x.begin(), false);
        noSession(c, x);
        c.due("protocol()", x.protocol(), -100);
        c.due("size(1)", x.size(1), 0);
        twoObjectsShareNothing(c);
        c.due("BAD", RoleSessions.BAD, -1);
        c.due("REFUSED", RoleSessions.REFUSED, -2);
        c.due("WAIT", RoleSessions.WAIT, -3);
        c.due("MISFIT", RoleSessions.MISFIT, -4);
        c.finish();
    }

    private static void noSession(Checks c, RoleSessions x) {
        c.due("send(0, 0)", x.send(0, 0), RoleSessions.BAD);
        c.due("receive(0)", x.receive(0), RoleSessions.BAD);
        c.due("estrange(0)", x.estrange(0), false);
        c.due("say(0, 1, 0, 0)", x.say(0, 1, 0, 0), RoleSessions.BAD);
        c.due("take(0, 1)", x.take(0, 1), RoleSessions.BAD);
        c.due("at(0, 0)", x.at(0, 0), RoleSessions.BAD);
        c.due("queue(0, 1)", x.queue(0, 1), RoleSessions.BAD);
        c.due("ready()", x.ready(), -1);
    }

    private static void twoObjectsShareNothing(Checks c) {
        RoleSessions one = Checks.inSession("a>b{f0:e}");
        RoleSessions two = new RoleSessions();
        one.type('e');
        c.due("size(0) of another object", two.size(0), 0);
        c.due("size(1) of another object", two.size(1), 0);
        c.due("size(2) of another object", two.size(2), 0);
    }
}
