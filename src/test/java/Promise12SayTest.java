public final class Promise12SayTest {
    public static void main(String[] args) {
        Checks c = new Checks("promise 12, say");
        c.due("say without a session", Checks.withProtocol("a>b{f0:e}").say(0, 1, 0, 0), RoleSessions.BAD);
        ranges(c);
        faults(c);
        letThrough(c);
        aFullQueue(c);
        byTheMachineOfTheProcess(c);
        c.finish();
    }

    private static void ranges(Checks c) {
        RoleSessions x = Checks.inSession("a>b{f0:e}");
        c.due("say of one that isn't strange", x.say(0, 1, 0, 0), RoleSessions.BAD);
        x.estrange(0);
        int[] beside = {-1, 6, Integer.MIN_VALUE, Integer.MAX_VALUE};
        for (int n : beside) {
            c.due("say(" + n + ", 1, 0, 0)", x.say(n, 1, 0, 0), RoleSessions.BAD);
            c.due("say(0, " + n + ", 0, 0)", x.say(0, n, 0, 0), RoleSessions.BAD);
            c.due("say(0, 1, " + n + ", 0)", x.say(0, 1, n, 0), RoleSessions.BAD);
            c.due("say(0, 1, 0, " + n + ")", x.say(0, 1, 0, n), RoleSessions.BAD);
        }
        c.due("say(4, 1, 0, 0)", x.say(4, 1, 0, 0), RoleSessions.BAD);
        c.due("say(0, 4, 0, 0)", x.say(0, 4, 0, 0), RoleSessions.BAD);
        c.due("say(0, 1, 0, 3)", x.say(0, 1, 0, 3), RoleSessions.BAD);
        c.due("say to itself", x.say(0, 0, 0, 0), RoleSessions.BAD);
        c.due("no faults", x.at(0, 1), 0);
        c.due("size(3)", x.size(3), 0);
    }

    private static void faults(Checks c) {
        RoleSessions x = Checks.inSession("a>b{f0:b>a{g0:e},h1:e}");
        x.estrange(0);
        x.estrange(1);
        x.estrange(3);
        c.due("say to another role", x.say(0, 2, 0, 0), RoleSessions.REFUSED);
        c.due("say another label", x.say(0, 1, 1, 0), RoleSessions.REFUSED);
        c.due("say another sort", x.say(0, 1, 0, 1), RoleSessions.REFUSED);
        c.due("the faults", x.at(0, 1), 3);
        c.due("say where it receives", x.say(1, 0, 0, 0), RoleSessions.REFUSED);
        c.due("say at an end", x.say(3, 0, 0, 0), RoleSessions.REFUSED);
        c.due("the faults of b", x.at(1, 1), 1);
        c.due("the faults of d", x.at(3, 1), 1);
        c.due("the faults of c", x.at(2, 1), 0);
        c.due("nothing else is done", x.at(0, 0), 0);
        c.due("queue(0, 1)", x.queue(0, 1), 0);
        c.due("size(3)", x.size(3), 0);
    }

    private static void letThrough(Checks c) {
        RoleSessions x = Checks.inSession("a>b{f0:b>a{g0:e},h1:e}");
        x.estrange(0);
        c.due("say(0, 1, 2, 1)", x.say(0, 1, 2, 1), 3);
        c.due("at(0, 0)", x.at(0, 0), 3);
        c.due("at(0, 1)", x.at(0, 1), 0);
        c.due("queue(0, 1)", x.queue(0, 1), 1);
        c.due("size(3)", x.size(3), 1);
        c.due("receive(1)", x.receive(1), 3);
    }

    private static void aFullQueue(Checks c) {
        RoleSessions x = Checks.inSession("mX.a>b{f0:X,g0:e}");
        x.estrange(0);
        for (int k = 0; k < 4; k++) {
            c.due("say(0, 1, 0, 0)", x.say(0, 1, 0, 0), 0);
        }
        c.due("say to a full queue", x.say(0, 1, 1, 0), RoleSessions.WAIT);
        c.due("that is no fault", x.at(0, 1), 0);
        c.due("at(0, 0)", x.at(0, 0), 0);
        c.due("size(3)", x.size(3), 4);
        c.due("a fault, be the queue full or not", x.say(0, 1, 1, 1), RoleSessions.REFUSED);
        c.due("at(0, 1)", x.at(0, 1), 1);
        c.due("queue(0, 1)", x.queue(0, 1), 4);
    }

    private static void byTheMachineOfTheProcess(Checks c) {
        RoleSessions x = Checks.withProtocol("a>b{f0:e,g0:e}");
        c.processDue(x, 0, "b!{g0:e}", 2);
        x.begin();
        x.estrange(0);
        c.due("say what the part has alone", x.say(0, 1, 0, 0), RoleSessions.REFUSED);
        c.due("say what the process has", x.say(0, 1, 1, 0), 1);
        c.due("at(0, 1)", x.at(0, 1), 1);
    }
}
