public final class Promise08BeginTest {
    public static void main(String[] args) {
        Checks c = new Checks("promise 8, begin");
        RoleSessions x = new RoleSessions();
        c.due("begin() without a protocol", x.begin(), false);
        Checks.typed(x, "mX.a>b{f0:X,g0:e}").protocol();
        c.due("size(2)", x.size(2), 0);
        c.due("begin()", x.begin(), true);
        c.due("size(2)", x.size(2), 1);
        aSessionInPlaceOfAnother(c, x);
        noMachine(c);
        withProcesses(c);
        c.finish();
    }

    private static void aSessionInPlaceOfAnother(Checks c, RoleSessions x) {
        x.send(0, 0);
        x.send(0, 1);
        x.estrange(1);
        x.say(1, 0, 0, 0);
        c.due("at(0, 0)", x.at(0, 0), 1);
        c.due("at(1, 1)", x.at(1, 1), 1);
        c.due("begin() again", x.begin(), true);
        c.due("at(0, 0)", x.at(0, 0), 0);
        c.due("at(1, 1)", x.at(1, 1), 0);
        c.due("at(1, 2)", x.at(1, 2), 0);
        c.due("queue(0, 1)", x.queue(0, 1), 0);
        c.due("size(3)", x.size(3), 0);
        c.due("ready()", x.ready(), 1);
        c.due("receive(1)", x.receive(1), RoleSessions.WAIT);
    }

    private static void noMachine(Checks c) {
        RoleSessions x = Checks.withProtocol("a>b{f0:c>d{f0:e},g0:c>d{g0:e}}");
        c.due("begin() where c has no machine", x.begin(), false);
        c.due("size(2)", x.size(2), 0);
        c.due("at(0, 0)", x.at(0, 0), RoleSessions.BAD);
        c.due("begin() where a alone has no machine",
                Checks.withProtocol("c>d{f0:a>b{f0:e},g0:a>b{g0:e}}").begin(), false);
        c.due("begin() where d alone has no machine",
                Checks.withProtocol("a>b{f0:d>c{f0:e},g0:d>c{g0:e}}").begin(), false);
    }

    private static void withProcesses(Checks c) {
        RoleSessions x = Checks.withProtocol("a>b{f0:e,g0:e}");
        c.processDue(x, 0, "b!{g0:e}", 2);
        c.due("begin()", x.begin(), true);
        c.due("send(0, 0)", x.send(0, 0), RoleSessions.REFUSED);
        c.due("send(0, 1)", x.send(0, 1), 1);
        c.due("receive(1)", x.receive(1), 2);
    }
}
