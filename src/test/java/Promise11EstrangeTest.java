public final class Promise11EstrangeTest {
    public static void main(String[] args) {
        Checks c = new Checks("promise 11, estrange");
        RoleSessions x = Checks.withProtocol("a>b{f0:b>a{f0:e}}");
        c.due("estrange(0) without a session", x.estrange(0), false);
        x.begin();
        c.due("at(0, 2)", x.at(0, 2), 0);
        int[] beside = {-1, 4, Integer.MIN_VALUE, Integer.MAX_VALUE};
        for (int n : beside) {
            c.due("estrange(" + n + ")", x.estrange(n), false);
        }
        c.due("send(0, 0)", x.send(0, 0), 1);
        c.due("estrange(0)", x.estrange(0), true);
        c.due("estrange(0) again", x.estrange(0), false);
        c.due("at(0, 2)", x.at(0, 2), 1);
        c.due("at(1, 2)", x.at(1, 2), 0);
        c.due("the monitor goes on in its state", x.at(0, 0), 1);
        for (int r = 1; r < 4; r++) {
            c.due("estrange(" + r + ")", x.estrange(r), true);
        }
        c.due("begin()", x.begin(), true);
        c.due("at(0, 2) in a new session", x.at(0, 2), 0);
        c.due("estrange(0) in a new session", x.estrange(0), true);
        c.processDue(x, 0, "b!{f0:b?{f0:e}}", 3);
        c.due("estrange(1) behind the session", x.estrange(1), false);
        c.finish();
    }
}
