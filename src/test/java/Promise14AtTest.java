public final class Promise14AtTest {
    public static void main(String[] args) {
        Checks c = new Checks("promise 14, at");
        RoleSessions x = Checks.withProtocol("a>b{f0:b>c{g0:e}}");
        c.due("at(0, 0) without a session", x.at(0, 0), RoleSessions.BAD);
        x.begin();
        for (int r = 0; r < 4; r++) {
            for (int what = 0; what < 3; what++) {
                c.due("at(" + r + ", " + what + ")", x.at(r, what), 0);
            }
        }
        int[] beside = {-1, 4, Integer.MIN_VALUE, Integer.MAX_VALUE};
        for (int n : beside) {
            c.due("at(" + n + ", 0)", x.at(n, 0), RoleSessions.BAD);
            c.due("at(0, " + n + ")", x.at(0, n), RoleSessions.BAD);
        }
        c.due("at(0, 3)", x.at(0, 3), RoleSessions.BAD);
        x.send(0, 0);
        c.due("at(0, 0)", x.at(0, 0), 1);
        c.due("at(1, 0)", x.at(1, 0), 0);
        x.estrange(1);
        x.take(1, 0);
        c.due("the monitor's state", x.at(1, 0), 1);
        x.say(1, 3, 0, 0);
        x.say(1, 3, 0, 0);
        x.take(1, 0);
        c.due("faults", x.at(1, 1), 3);
        c.due("faults of another", x.at(0, 1), 0);
        c.due("strange", x.at(1, 2), 1);
        c.due("not strange", x.at(2, 2), 0);
        c.due("the monitor's state", x.at(1, 0), 1);
        Checks.typed(x, "e").protocol();
        c.due("at(1, 1) behind the session", x.at(1, 1), RoleSessions.BAD);
        c.finish();
    }
}
