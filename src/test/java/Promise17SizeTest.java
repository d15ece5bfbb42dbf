public final class Promise17SizeTest {
    private static final int BAD = RoleSessions.BAD;

    public static void main(String[] args) {
        Checks c = new Checks("promise 17, size");
        charactersOfTheText(c);
        typesOfTheProtocol(c);
        withoutAProtocol(c);
        whetherThereIsASession(c);
        lettersSent(c);
        lettersWithoutASession(c);
        anyOtherNumber(c);
        c.finish();
    }

    private static void charactersOfTheText(Checks c) {
        c.sentence("0 the characters of the text");
        RoleSessions x = new RoleSessions();
        c.due("none", x.size(0), 0);
        Checks.typed(x, "mX.a>b{f0:X,g0:e}");
        c.due("seventeen", x.size(0), 17);
        x.protocol();
        c.due("emptied", x.size(0), 0);
        Checks.typed(x, "e".repeat(99));
        c.due("99", x.size(0), 99);
        x.type('e');
        c.due("100", x.size(0), 100);
        x.type('e');
        c.due("not more", x.size(0), 100);
        x.begin();
        c.due("begin() leaves the text", x.size(0), 100);
    }

    private static void typesOfTheProtocol(Checks c) {
        c.sentence("1 the types of the protocol");
        RoleSessions x = Checks.withProtocol("e");
        c.due("one", x.size(1), 1);
        Checks.typed(x, "mX.a>b{f0:X,g0:e}").protocol();
        c.due("four", x.size(1), 4);
        Checks.typed(x, "mX.a>b{f0:X,g0:e").protocol();
        c.due("still four behind a fault", x.size(1), 4);
        c.processDue(x, 0, "b!{g0:e}", 2);
        c.due("a process has none of its own here", x.size(1), 4);
        Checks.typed(x, "mX.".repeat(29) + "e").protocol();
        c.due("thirty", x.size(1), 30);
    }

    private static void withoutAProtocol(Checks c) {
        c.sentence("(0 without one)");
        RoleSessions x = Checks.typed(new RoleSessions(), "mX.a>b{f0:X,g0:e");
        c.due("size(1)", x.size(1), 0);
        x.protocol();
        c.due("size(1) behind a fault", x.size(1), 0);
    }

    private static void whetherThereIsASession(Checks c) {
        c.sentence("2 whether there is a session (1 or 0)");
        RoleSessions x = new RoleSessions();
        c.due("new", x.size(2), 0);
        Checks.typed(x, "a>b{f0:e}").protocol();
        c.due("with a protocol", x.size(2), 0);
        x.begin();
        c.due("begun", x.size(2), 1);
        x.begin();
        c.due("begun again", x.size(2), 1);
        x.send(0, 0);
        x.receive(1);
        c.due("where all are at an end", x.size(2), 1);
        c.processDue(x, 3, "e", 1);
        c.due("behind a process", x.size(2), 0);
        x.begin();
        Checks.typed(x, "e").protocol();
        c.due("behind a protocol", x.size(2), 0);
    }

    private static void lettersSent(Checks c) {
        c.sentence("3 how many letters were sent in it, by strange roles, too");
        RoleSessions x = Checks.inSession("mX.a>b{f0:X,g0:e}");
        c.due("none", x.size(3), 0);
        x.send(0, 0);
        c.due("one", x.size(3), 1);
        x.send(0, 5);
        x.send(0, 6);
        x.send(1, 0);
        c.due("refused ones don't count", x.size(3), 1);
        x.receive(1);
        c.due("nor does taking", x.size(3), 1);
        x.estrange(0);
        x.say(0, 1, 0, 0);
        c.due("that of a strange one", x.size(3), 2);
        x.say(0, 1, 0, 1);
        c.due("a fault doesn't count", x.size(3), 2);
        for (int k = 0; k < 5; k++) {
            x.say(0, 1, 0, 0);
        }
        c.due("nor what must wait", x.size(3), 5);
        x.begin();
        c.due("in a new session", x.size(3), 0);
    }

    private static void lettersWithoutASession(Checks c) {
        c.sentence("3 how many letters were sent (0 without one)");
        RoleSessions x = Checks.withProtocol("a>b{f0:e}");
        c.due("before it", x.size(3), 0);
        x.begin();
        x.send(0, 0);
        c.due("in it", x.size(3), 1);
        c.processDue(x, 3, "e", 1);
        c.due("behind a process", x.size(3), 0);
        x.begin();
        x.send(0, 0);
        Checks.typed(x, "e").protocol();
        c.due("behind a protocol", x.size(3), 0);
    }

    private static void anyOtherNumber(Checks c) {
        c.sentence("BAD for any other number");
        RoleSessions[] objects = {new RoleSessions(), Checks.withProtocol("e"), Checks.inSession("e")};
        for (RoleSessions x : objects) {
            for (int what : new int[] {-1, 4, 5, 256, Integer.MIN_VALUE, Integer.MAX_VALUE}) {
                c.due("size(" + what + ")", x.size(what), BAD);
            }
        }
    }
}
