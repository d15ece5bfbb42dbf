public final class Promise17SizeTest {
    public static void main(String[] args) {
        Checks c = new Checks("promise 17, size");
        RoleSessions x = new RoleSessions();
        int[] beside = {-1, 4, Integer.MIN_VALUE, Integer.MAX_VALUE};
        for (int n : beside) {
            c.due("size(" + n + ")", x.size(n), RoleSessions.BAD);
        }
        Checks.typed(x, "mX.a>b{f0:X,g0:e}");
        c.due("size(0)", x.size(0), 17);
        c.due("size(1)", x.size(1), 0);
        x.protocol();
        four(c, x, 0, 4, 0, 0);
        x.begin();
        four(c, x, 0, 4, 1, 0);
        x.send(0, 0);
        x.send(0, 5);
        x.receive(1);
        four(c, x, 0, 4, 1, 1);
        x.estrange(0);
        x.say(0, 1, 0, 0);
        x.say(0, 1, 0, 1);
        four(c, x, 0, 4, 1, 2);
        x.type('e');
        four(c, x, 1, 4, 1, 2);
        x.begin();
        four(c, x, 1, 4, 1, 0);
        x.send(0, 1);
        x.protocol();
        four(c, x, 0, 1, 0, 0);
        c.finish();
    }

    private static void four(Checks c, RoleSessions x, int... want) {
        for (int what = 0; what < 4; what++) {
            c.due("size(" + what + ")", x.size(what), want[what]);
        }
    }
}
