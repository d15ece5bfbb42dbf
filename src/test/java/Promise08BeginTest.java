public final class Promise08BeginTest {
    private static final int BAD = RoleSessions.BAD;

    public static void main(String[] args) {
        Checks c = new Checks("promise 8, begin");
        begins(c);
        inPlaceOfAnother(c);
        nobodyIsStrange(c);
        nobodyHasFaults(c);
        noProtocol(c);
        noMachine(c);
        withProcesses(c);
        c.finish();
    }

    private static void begins(Checks c) {
        c.sentence("Begins a session");
        RoleSessions x = Checks.withProtocol("mX.a>b{f0:X,g0:e}");
        c.due("size(2)", x.size(2), 0);
        c.due("begin()", x.begin(), true);
        c.due("size(2)", x.size(2), 1);
        c.due("send(0, 1)", x.send(0, 1), 1);
        c.due("begin() of the smallest", Checks.withProtocol("e").begin(), true);
    }

    private static void inPlaceOfAnother(Checks c) {
        c.sentence("in place of one that is there");
        RoleSessions x = Checks.inSession("mX.a>b{f0:X,g0:b>a{f0:e}}");
        x.send(0, 0);
        x.send(0, 1);
        x.receive(1);
        x.receive(1);
        x.send(1, 0);
        c.due("begin() again", x.begin(), true);
        for (int r = 0; r < 4; r++) {
            c.due("at(" + r + ", 0)", x.at(r, 0), 0);
            for (int q = 0; q < 4; q++) {
                c.due("queue(" + r + ", " + q + ")", x.queue(r, q), r == q ? BAD : 0);
            }
        }
        c.due("size(3)", x.size(3), 0);
        c.due("ready()", x.ready(), 1);
        c.due("receive(1)", x.receive(1), RoleSessions.WAIT);
        c.due("send(0, 1)", x.send(0, 1), 1);
        c.due("receive(1)", x.receive(1), 1);
    }

    private static void nobodyIsStrange(Checks c) {
        c.sentence("nobody is strange");
        RoleSessions x = Checks.inSession("a>b{f0:e}");
        for (int r = 0; r < 4; r++) {
            x.estrange(r);
        }
        c.due("begin()", x.begin(), true);
        for (int r = 0; r < 4; r++) {
            c.due("at(" + r + ", 2)", x.at(r, 2), 0);
        }
        c.due("say(0, 1, 0, 0)", x.say(0, 1, 0, 0), BAD);
        c.due("send(0, 0)", x.send(0, 0), 1);
        c.due("receive(1)", x.receive(1), 1);
    }

    private static void nobodyHasFaults(Checks c) {
        c.sentence("nobody has faults");
        RoleSessions x = Checks.inSession("a>b{f0:e}");
        for (int r = 0; r < 4; r++) {
            x.estrange(r);
            x.say(r, (r + 1) % 4, 5, 0);
            c.due("at(" + r + ", 1)", x.at(r, 1), 1);
        }
        c.due("begin()", x.begin(), true);
        for (int r = 0; r < 4; r++) {
            c.due("at(" + r + ", 1)", x.at(r, 1), 0);
        }
    }

    private static void noProtocol(Checks c) {
        c.sentence("False when there is no protocol");
        RoleSessions x = Checks.typed(new RoleSessions(), "e");
        c.due("begin()", x.begin(), false);
        c.due("size(2)", x.size(2), 0);
        c.due("size(0)", x.size(0), 1);
        c.due("protocol() with a fault", Checks.typed(x, "e").protocol(), -101);
        c.due("begin()", x.begin(), false);
    }

    private static void noMachine(Checks c) {
        c.sentence("False when some role has no machine");
        String[] texts = {"c>d{f0:a>b{f0:e},g0:a>b{g0:e}}", "c>d{f0:b>a{f0:e},g0:b>a{g0:e}}",
            "a>b{f0:c>d{f0:e},g0:c>d{g0:e}}", "a>b{f0:d>c{f0:e},g0:d>c{g0:e}}"};
        for (int r = 0; r < 4; r++) {
            RoleSessions x = Checks.withProtocol(texts[r]);
            for (int q = 0; q < 4; q++) {
                c.due("whether part(" + q + ") of " + texts[r] + " is there", x.part(q) > 0, q != r);
            }
            c.due("begin() where role " + r + " alone has none", x.begin(), false);
            c.due("size(2)", x.size(2), 0);
            c.due("at(0, 0)", x.at(0, 0), BAD);
        }
        // a session of an earlier protocol does not come again
        RoleSessions x = Checks.inSession("a>b{f0:e}");
        Checks.typed(x, texts[2]).protocol();
        c.due("begin()", x.begin(), false);
        c.due("ready()", x.ready(), -1);
    }

    private static void withProcesses(Checks c) {
        c.sentence("Begins a session with the processes that there are");
        RoleSessions x = Checks.withProtocol("a>b{f0:e,g0:e}");
        c.processDue(x, 0, "b!{g0:e}", 2);
        c.due("begin()", x.begin(), true);
        c.due("send(0, 0)", x.send(0, 0), RoleSessions.REFUSED);
        c.due("send(0, 1)", x.send(0, 1), 1);
        c.due("receive(1)", x.receive(1), 2);
    }
}
