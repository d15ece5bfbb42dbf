public final class Promise05ProcessTest {
    private static final String ASKING = "mX.a>b{f0:b>a{g0:X},h1:e}";

    public static void main(String[] args) {
        Checks c = new Checks("promise 5, process");
        ranges(c);
        faults(c);
        sendings(c);
        receivings(c);
        pairsThatComeAgain(c);
        noPart(c);
        whatBecomesOfTheRest(c);
        oneProcessAfterTheOther(c);
        c.finish();
    }

    private static void one(Checks c, String protocol, int r, String process, int want) {
        c.processDue(Checks.withProtocol(protocol), r, process, want);
    }

    private static void ranges(Checks c) {
        RoleSessions x = Checks.typed(new RoleSessions(), "e");
        c.due("process(0) without a protocol", x.process(0), RoleSessions.BAD);
        c.due("size(0)", x.size(0), 1);
        c.due("protocol()", x.protocol(), 1);
        Checks.typed(x, "ee");
        c.due("process(4)", x.process(4), RoleSessions.BAD);
        c.due("process(-1)", x.process(-1), RoleSessions.BAD);
        c.due("size(0)", x.size(0), 2);
        c.due("process(3)", x.process(3), -101);
        c.due("size(0)", x.size(0), 0);
        c.due("process(3) of an empty text", x.process(3), -100);
    }

    private static void faults(Checks c) {
        one(c, "e", 0, "a>b{f0:e}", -101);
        one(c, "e", 0, "b", -101);
        one(c, "e", 0, "b!", -102);
        one(c, "e", 0, "b!a{f0:e}", -102);
        one(c, "e", 0, "b?{}", -103);
        one(c, "e", 0, "b?{f0:e,f0:e}", -108);
        one(c, "e", 0, "b?{f0:e,g3:e}", -109);
        one(c, "e", 0, "b?{f0:X}", -106);
        one(c, "e", 0, "mX.X", -103);
        one(c, "e", 0, "mX.b?{f0:mX.X}", -112);
        one(c, "e", 0, "mX.mY.X", -106);
        one(c, "e", 0, "b!{f0:e}e", -108);
        one(c, "e", 0, "mX.".repeat(29) + "e", 1);
        one(c, "e", 0, "mX.".repeat(30) + "e", -190);
        one(c, "e", 0, "mX.".repeat(28) + "b!{f0:e,g0:e}", -195);
        // a role may be the process's own one in the text; the part has no such message
        one(c, "e", 0, "a!{f0:e}", RoleSessions.REFUSED);
    }

    private static void sendings(Checks c) {
        one(c, "a>b{f0:e,g1:e}", 0, "b!{f0:e,g1:e}", 3);
        one(c, "a>b{f0:e,g1:e}", 0, "b!{g1:e,f0:e}", 3);
        one(c, "a>b{f0:e,g1:e}", 0, "b!{g1:e}", 2);
        one(c, "a>b{f0:e,g1:e}", 0, "b!{g0:e}", RoleSessions.REFUSED);
        one(c, "a>b{f0:e,g1:e}", 0, "b!{f0:e,h0:e}", RoleSessions.REFUSED);
        one(c, "a>b{f0:e,g1:e}", 0, "c!{f0:e}", RoleSessions.REFUSED);
        one(c, "a>b{f0:e,g1:e}", 0, "b?{f0:e,g1:e}", RoleSessions.REFUSED);
        one(c, "a>b{f0:e,g1:e}", 0, "b!{f0:b!{f0:e}}", RoleSessions.REFUSED);
        one(c, "a>b{f0:e,g1:e}", 0, "e", RoleSessions.REFUSED);
        one(c, "a>b{f0:e,g1:e}", 0, "mX.b!{f0:e}", 2);
        one(c, "a>b{f0:e,g1:e}", 0, "mX.b!{f0:X}", RoleSessions.REFUSED);
        one(c, "e", 0, "mX.mY.e", 1);
        one(c, "a>b{f0:e}", 2, "e", 1);
        one(c, "a>b{f0:e}", 2, "b?{f0:e}", RoleSessions.REFUSED);
    }

    private static void receivings(Checks c) {
        one(c, "a>b{f0:e,g1:e}", 1, "a?{f0:e,g1:e}", 3);
        one(c, "a>b{f0:e,g1:e}", 1, "a?{g1:e,k2:e,f0:e}", 4);
        one(c, "a>b{f0:e,g1:e}", 1, "a?{f0:e}", RoleSessions.REFUSED);
        one(c, "a>b{f0:e,g1:e}", 1, "a?{f0:e,g0:e}", RoleSessions.REFUSED);
        one(c, "a>b{f0:e,g1:e}", 1, "c?{f0:e,g1:e}", RoleSessions.REFUSED);
        one(c, "a>b{f0:e,g1:e}", 1, "a?{f0:e,g1:a?{f0:e}}", RoleSessions.REFUSED);
        // behind a label that the part hasn't, anything goes
        one(c, "a>b{f0:e,g1:e}", 1, "a?{f0:e,g1:e,h0:mX.b!{i2:c?{f0:X}}}", 5);
    }

    private static void pairsThatComeAgain(Checks c) {
        one(c, ASKING, 0, "mX.b!{f0:b?{g0:b!{f0:b?{g0:X,h0:e}}}}", 5);
        one(c, ASKING, 0, "b!{f0:b?{g0:mX.b!{f0:b?{g0:X}}}}", 4);
        one(c, ASKING, 0, "b!{h1:e}", 2);
        one(c, ASKING, 0, "b!{f0:b?{g0:b!{h1:e}}}", 4);
        one(c, ASKING, 0, "b!{f0:b?{g0:e}}", RoleSessions.REFUSED);
        // the fault is in the second round alone
        one(c, ASKING, 0, "mX.b!{f0:b?{g0:b!{f0:b?{g1:X}}}}", RoleSessions.REFUSED);
        one(c, ASKING, 1, "mX.a?{f0:a!{g0:a?{f0:a!{g0:X},h1:e}},h1:e}", 6);
        one(c, ASKING, 1, "mX.a?{f0:a!{g0:a?{f0:a!{g0:X}}},h1:e}", RoleSessions.REFUSED);
        one(c, ASKING, 1, "mX.a?{f0:a!{g0:X}}", RoleSessions.REFUSED);
        // rounds of two and of three against one another
        one(c, "mX.a>b{f0:a>b{f0:X}}", 0, "mX.b!{f0:b!{f0:b!{f0:X}}}", 3);
        one(c, "mX.a>b{f0:a>b{g0:X}}", 0, "mX.b!{f0:b!{g0:b!{f0:X}}}", RoleSessions.REFUSED);
    }

    private static void noPart(Checks c) {
        RoleSessions x = Checks.withProtocol("a>b{f0:c>d{f0:e},g0:c>d{g0:e}}");
        c.processDue(x, 2, "d!{f0:e}", RoleSessions.REFUSED);
        c.processDue(x, 2, "e", RoleSessions.REFUSED);
        c.due("size(0)", x.size(0), 0);
        c.processDue(x, 2, "d!{f0", -105);
        c.processDue(x, 3, "c?{f0:e,g0:e}", 3);
    }

    private static void whatBecomesOfTheRest(Checks c) {
        RoleSessions x = Checks.inSession("a>b{f0:e,g0:e}");
        c.processDue(x, 0, "b!{h0:e}", RoleSessions.REFUSED);
        c.due("size(2) behind a refused process", x.size(2), 1);
        c.processDue(x, 0, "b!{h0", -105);
        c.due("size(2) behind a fault", x.size(2), 1);
        c.due("send(0, 1)", x.send(0, 1), 2);
        c.processDue(x, 0, "b!{g0:e}", 2);
        c.due("size(2) behind a process", x.size(2), 0);
        c.due("at(0, 0)", x.at(0, 0), RoleSessions.BAD);
        c.due("begin()", x.begin(), true);
        c.due("at(0, 0)", x.at(0, 0), 0);
        c.processDue(x, 0, "e", RoleSessions.REFUSED);
        c.machineDue(x, 0, "b!g0>1 .");
        c.due("size(2)", x.size(2), 1);
        c.due("send(0, 0)", x.send(0, 0), RoleSessions.REFUSED);
        // it is held against the part, not against the process before
        c.processDue(x, 0, "b!{f0:e}", 2);
        c.machineDue(x, 0, "b!f0>1 .");
        c.machineDue(x, 1, "a?f0>1,g0>2 . .");
        c.due("size(1)", x.size(1), 3);
    }

    private static void oneProcessAfterTheOther(Checks c) {
        RoleSessions x = Checks.withProtocol("a>b{f0:e,g0:a>b{f0:e}}");
        for (int k = 0; k < 8; k++) {
            c.processDue(x, 0, "b!{g0:b!{f0:e},f0:e}", 4);
            c.machineDue(x, 0, "b!g0>1,f0>3 b!f0>2 . .");
            c.processDue(x, 0, "b!{g0:b!{g0:e},f0:e}", RoleSessions.REFUSED);
            c.processDue(x, 1, "a?{g0:a?{f0:e},f0:e,h0:e}", 5);
            c.processDue(x, 1, "a?{g0:a?{g0:e},f0:e,h0:e}", RoleSessions.REFUSED);
            c.machineDue(x, 1, "a?g0>1,f0>3,h0>4 a?f0>2 . . .");
        }
    }
}
