/** Terms: what a local type is, and what in it is at fault. */
public final class TermsLocalTypeTest {
    private static final int REFUSED = RoleSessions.REFUSED;

    public static void main(String[] args) {
        Checks c = new Checks("terms, local types");
        theSame(c);
        anyRole(c);
        marks(c);
        branches(c);
        variables(c);
        themselvesAtFault(c);
        thirtyFirstType(c);
        nothingMore(c);
        c.finish();
    }

    /** Role a has nothing to do in the protocol, so a process with messages is read, but refused. */
    private static void read(Checks c, String text, int want) {
        c.processDue("e", 0, text, want);
    }

    private static void theSame(Checks c) {
        c.sentence("LOCAL TYPE: the same, but for messages");
        read(c, "e", 1);
        read(c, "mX.e", 1);
        read(c, "mX.mY.mZ.mX.e", 1);
        read(c, "f", -100);
        read(c, "m.e", -101);
        read(c, "mW.e", -101);
        read(c, "mX:e", -102);
    }

    private static void anyRole(Checks c) {
        c.sentence("a role (any)");
        for (char partner = 'a'; partner <= 'd'; partner++) {
            for (int r = 0; r < 4; r++) {
                c.processDue("e", r, partner + "!{f0:e}", REFUSED);
                c.processDue("e", r, partner + "?{f0:e}", REFUSED);
            }
        }
        read(c, "`!{f0:e}", -100);
        read(c, "e!{f0:e}", -101);
        // behind a label that never comes a role may even speak with itself
        RoleSessions x = Checks.withProtocol("a>b{f0:e}");
        c.processDue(x, 1, "a?{f0:e,g0:b!{f0:b?{f0:e}}}", 5);
        c.machineDue(x, 1, "a?f0>1,g0>2 . b!f0>3 b?f0>4 .");
    }

    private static void marks(Checks c) {
        c.sentence("! (to send to it) or ? (to receive from it), {, branches with local types, }");
        c.processDue("a>b{f0:e}", 0, "b!{f0:e}", 2);
        c.processDue("a>b{f0:e}", 1, "a?{f0:e}", 2);
        c.processDue("a>b{f0:e}", 0, "b?{f0:e}", REFUSED);
        c.processDue("a>b{f0:e}", 1, "a!{f0:e}", REFUSED);
        read(c, "a>b{f0:e}", -101);
        read(c, "b{f0:e}", -101);
        read(c, "b!a{f0:e}", -102);
        read(c, "b!?{f0:e}", -102);
        read(c, "b!f0:e}", -102);
        read(c, "b!{f0:a>b{f0:e}}", -107);
        read(c, "b!{f0:e", -107);
    }

    private static void branches(Checks c) {
        c.sentence("branches of local types: a label that none of the earlier ones has, one at least, a comma between");
        read(c, "b?{}", -103);
        read(c, "b?{,f0:e}", -103);
        read(c, "b?{f0:e,}", -108);
        read(c, "b?{f0:eg0:e}", -107);
        read(c, "b?{f0:e,g3:e}", -109);
        read(c, "b?{f0:e,g0:e,h0:e,i0:e,j0:e,k0:e}", REFUSED);
        read(c, "b?{f0:e,g0:e,h0:e,i0:e,j0:e,k0:e,}", -133);
        read(c, "b?{f0:b?{f0:e},g0:b!{f0:e}}", REFUSED);
    }

    private static void variables(Checks c) {
        c.sentence("a variable of a local type can't stand in no loop of it, or without a message between");
        read(c, "X", -100);
        read(c, "mX.X", -103);
        read(c, "mX.mY.X", -106);
        read(c, "b?{f0:X}", -106);
        read(c, "mX.b?{f0:Y}", -109);
        read(c, "mX.b?{f0:mX.X}", -112);
        read(c, "b?{f0:mX.b!{f0:X},g0:X}", -121);
        read(c, "mX.b?{f0:mY.X}", REFUSED);
        RoleSessions x = Checks.withProtocol("mX.a>b{f0:X}");
        c.processDue(x, 0, "mX.b!{f0:mX.b!{f0:X}}", 2);
        c.machineDue(x, 0, "b!f0>1 b!f0>1");
    }

    private static void themselvesAtFault(Checks c) {
        c.sentence("A label that is there, a variable that can't stand are themselves at fault, in a local type, too");
        read(c, "b?{f0:e,f0:e}", -108);
        read(c, "b!{f0:e,g0:e,h0:e,g1:e}", -118);
        read(c, "mX.b!{f0:X,g0:Y}", -114);
        read(c, "mX.b!{f0:X,g0:mX.X}", -117);
    }

    private static void thirtyFirstType(Checks c) {
        c.sentence("What begins a 31st type can't stand there, in a local type, too");
        String loops = "mX.".repeat(28);
        read(c, loops + "mX.e", 1);
        read(c, loops + "b!{f0:e}", REFUSED);
        read(c, loops + "b?{f0:X}", REFUSED);
        read(c, loops + "mX.mX.e", -190);
        read(c, loops + "mX.mX.m", -190);
        read(c, loops + "mX.b!{f0:e}", -193);
        read(c, loops + "b!{f0:e,g0:e}", -195);
        read(c, loops + "b!{f0:X,g0:X}", -195);
        read(c, loops + "b!{f0:X,g0:m", -195);
        read(c, loops + "b?{f0:X,g0:c", -195);
        read(c, loops + "b?{f0:c!{f0:e", -196);
        read(c, loops + "mX.mX.", -190);
    }

    private static void nothingMore(Checks c) {
        c.sentence("Behind the whole local type nothing more");
        for (char more : "eXmab!?{},.:f0 ".toCharArray()) {
            read(c, "e" + more, -101);
            read(c, "mX.e" + more, -104);
            read(c, "b!{f0:e}" + more, -108);
            read(c, "mX.b?{f0:X}" + more, -111);
        }
    }
}
