/** Terms: what a global type is, and what in it is at fault. */
public final class TermsGlobalTypeTest {
    public static void main(String[] args) {
        Checks c = new Checks("terms, global types");
        smallest(c);
        variableOfNoLoop(c);
        variableWithoutMessage(c);
        theInnermostLoop(c);
        loops(c);
        messages(c);
        labelOfNoEarlierBranch(c);
        oneBranchAtLeast(c);
        commasBetween(c);
        firstRoleAgain(c);
        theLabelIsAtFault(c);
        theVariableIsAtFault(c);
        thirtyFirstType(c);
        everyKindCounts(c);
        nothingMore(c);
        c.finish();
    }

    private static void smallest(Checks c) {
        c.sentence("GLOBAL TYPE: e (the end)");
        c.protocolDue("e", 1);
        c.protocolDue("E", -100);
    }

    private static void variableOfNoLoop(Checks c) {
        c.sentence("a variable (it can't stand where it is in no LOOP of it");
        c.protocolDue("X", -100);
        c.protocolDue("a>b{f0:X}", -107);
        c.protocolDue("mX.a>b{f0:Y}", -110);
        c.protocolDue("mY.a>b{f0:Z}", -110);
        c.protocolDue("mZ.a>b{f0:X}", -110);
        c.protocolDue("mX.mY.a>b{f0:X,g0:Y,h0:Z}", -123);
        // behind the loop, not in it
        c.protocolDue("a>b{f0:mX.a>b{f0:X},g0:X}", -123);
        c.protocolDue("a>b{f0:mX.e,g0:X}", -115);
    }

    private static void variableWithoutMessage(Checks c) {
        c.sentence("or where no message is between it and the innermost loop of it");
        c.protocolDue("mX.X", -103);
        c.protocolDue("mX.mY.X", -106);
        c.protocolDue("mX.mY.Y", -106);
        c.protocolDue("mX.mX.X", -106);
        c.protocolDue("a>b{f0:mX.X}", -110);
        // there is a message between it and the outer loop of it, but not the innermost one
        c.protocolDue("mX.a>b{f0:mX.X}", -113);
        c.protocolDue("mX.a>b{f0:mX.mY.X}", -116);
        c.protocolDue("mX.a>b{f0:mY.mX.X}", -116);
        c.protocolDue("mX.a>b{f0:mX.a>b{f0:mX.X}}", -123);
        // a message before the loop or in another branch is not between
        c.protocolDue("a>b{f0:a>b{f0:e},g0:mX.X}", -123);
        c.protocolDue("mX.a>b{f0:mY.a>b{f0:Y},g0:mY.Y}", -129);
        // between it and its own loop there is one, whatever loops of others stand there
        c.protocolDue("mX.a>b{f0:mY.X}", 4);
        c.protocolDue("mX.a>b{f0:mY.mZ.X}", 5);
        c.protocolDue("mX.mY.a>b{f0:mZ.Y}", 5);
        c.protocolDue("mX.mY.mZ.a>b{f0:X,g0:Y,h0:Z}", 7);
    }

    private static void theInnermostLoop(Checks c) {
        c.sentence("the innermost loop of it, which is the one that is meant");
        c.partDue("mX.a>b{f0:mX.b>a{f0:X}}", 0, "b!f0>1 b?f0>1");
        c.partDue("mX.a>b{f0:mX.b>a{f0:X},g0:X}", 0, "b!f0>1,g0>0 b?f0>1");
        c.partDue("mX.a>b{f0:mY.b>a{f0:X}}", 0, "b!f0>1 b?f0>0");
        c.partDue("mX.a>b{f0:mX.e,g0:X}", 0, "b!f0>1,g0>0 .");
    }

    private static void loops(Checks c) {
        c.sentence("a loop: m, a variable, a point, a global type");
        c.protocolDue("mX.e", 2);
        c.protocolDue("mX.mX.e", 3);
        c.protocolDue("m.e", -101);
        c.protocolDue("me", -101);
        c.protocolDue("mXe", -102);
        c.protocolDue("mX.", -103);
        c.protocolDue("mX..", -103);
    }

    private static void messages(Checks c) {
        c.sentence("a MESSAGE: a role, >, another role, {, BRANCHES, }");
        c.protocolDue("a>b{f0:e}", 2);
        c.protocolDue("ab{f0:e}", -101);
        c.protocolDue("a>{f0:e}", -102);
        c.protocolDue("a>bf0:e}", -103);
        c.protocolDue("a>b{f0:e", -108);
        c.protocolDue("a!{f0:e}", -101);
        c.protocolDue("a?{f0:e}", -101);
    }

    private static void labelOfNoEarlierBranch(Checks c) {
        c.sentence("a branch is a label that none of the earlier ones has, a sort, :, a global type");
        c.protocolDue("a>b{f0:e,g0:e,h0:e,i0:e,j0:e,k0:e}", 7);
        c.protocolDue("a>b{k2:e,j1:e,i0:e,h2:e,g1:e,f0:e}", 7);
        // the labels of other messages don't count
        c.protocolDue("a>b{f0:a>b{f0:e,g0:e},g0:a>b{g0:e,f0:e}}", 7);
        c.protocolDue("a>b{0:e}", -104);
        c.protocolDue("a>b{f:e}", -105);
        c.protocolDue("a>b{f0e}", -106);
        c.protocolDue("a>b{f0:}", -107);
    }

    private static void oneBranchAtLeast(Checks c) {
        c.sentence("branches (one at least)");
        c.protocolDue("a>b{}", -104);
        c.protocolDue("a>b{,f0:e}", -104);
        c.protocolDue("a>b{f0:c>d{}}", -111);
    }

    private static void commasBetween(Checks c) {
        c.sentence("have a comma between");
        c.protocolDue("a>b{f0:e,g0:e}", 3);
        c.protocolDue("a>b{f0:eg0:e}", -108);
        c.protocolDue("a>b{f0:e;g0:e}", -108);
        c.protocolDue("a>b{f0:e,,g0:e}", -109);
        c.protocolDue("a>b{f0:e,}", -109);
        // with all six labels there, a comma can stand, but nothing behind it
        c.protocolDue("a>b{f0:e,g0:e,h0:e,i0:e,j0:e,k0:e,}", -134);
        c.protocolDue("a>b{f0:e,g0:e,h0:e,i0:e,j0:e,k0:e,", -134);
    }

    private static void firstRoleAgain(Checks c) {
        c.sentence("A role that is the first one again is itself at fault");
        c.protocolDue("a>a{f0:e}", -102);
        c.protocolDue("b>b{f0:e}", -102);
        c.protocolDue("c>c{f0:e}", -102);
        c.protocolDue("d>d{f0:e}", -102);
        c.protocolDue("a>b{f0:b>b{f0:e}}", -109);
        c.protocolDue("a>b{f0:b>a{f0:e}}", 3);
    }

    private static void theLabelIsAtFault(Checks c) {
        c.sentence("A label that is there is itself at fault");
        String letters = "fghijk";
        for (int count = 1; count <= 6; count++) {
            StringBuilder text = new StringBuilder("a>b{");
            for (int k = 0; k < count; k++) {
                text.append(letters.charAt(k)).append("0:e,");
            }
            for (int k = 0; k < 6; k++) {
                String more = text.toString() + letters.charAt(k) + "1:e}";
                c.protocolDue(more, k < count ? -100 - text.length() : count + 2);
            }
        }
        c.protocolDue("a>b{f0:a>b{g0:e},f0:e}", -117);
        c.protocolDue("a>b{f0:a>b{f0:e,f0:e}}", -116);
    }

    private static void theVariableIsAtFault(Checks c) {
        c.sentence("A variable that can't stand is itself at fault");
        c.protocolDue("Z", -100);
        c.protocolDue("mX.mY.X", -106);
        c.protocolDue("mX.a>b{f0:X,g0:Z}", -115);
        c.protocolDue("mX.a>b{f0:X,g0:mX.X}", -118);
    }

    private static void thirtyFirstType(Checks c) {
        c.sentence("What begins a 31st type can't stand there");
        String loops = "mX.".repeat(28);
        c.protocolDue(loops + "mX.e", 30);
        c.protocolDue(loops + "a>b{f0:e}", 30);
        c.protocolDue(loops + "a>b{f0:X}", 30);
        c.protocolDue(loops + "mX.mX.e", -190);
        c.protocolDue(loops + "mX.mX.X", -190);
        c.protocolDue(loops + "mX.mX.mX.e", -190);
        c.protocolDue(loops + "mX.mX.a>b{f0:", -190);
        c.protocolDue(loops + "a>b{f0:e,g0:e}", -196);
        c.protocolDue(loops + "a>b{f0:e,g0:X}", -196);
        c.protocolDue(loops + "a>b{f0:e,g0:m", -196);
        c.protocolDue(loops + "a>b{f0:e,g0:a", -196);
        // more must follow, though it could not
        c.protocolDue(loops + "mX.mX.", -190);
        c.protocolDue(loops + "a>b{f0:e,g0:", -196);
        c.protocolDue(loops + "a>b{f0:e,g0", -195);
        c.protocolDue(loops + "a>b{f0:e,", -193);
    }

    private static void everyKindCounts(Checks c) {
        c.sentence("(e, variables, loops and messages all count)");
        c.protocolDue("mX.".repeat(27) + "a>b{f0:e,g0:e}", 30);
        c.protocolDue("mX.".repeat(27) + "a>b{f0:e,g0:e,h0:e", -198);
        c.protocolDue("mX.".repeat(27) + "a>b{f0:X,g0:X}", 30);
        c.protocolDue("mX.".repeat(27) + "a>b{f0:X,g0:X,h0:e", -198);
        c.protocolDue("mX.".repeat(27) + "a>b{f0:mX.e}", 30);
        c.protocolDue("mX.".repeat(27) + "a>b{f0:mX.mX.e", -194);
        c.protocolDue("mX.".repeat(27) + "a>b{f0:a>b{f0:e}}", 30);
        c.protocolDue("mX.".repeat(28) + "a>b{f0:a>b{f0:e", -198);
        // each text has its own thirty
        RoleSessions x = new RoleSessions();
        for (int k = 0; k < 4; k++) {
            c.due("protocol() " + k, Checks.typed(x, "mX.".repeat(29) + "e").protocol(), 30);
        }
    }

    private static void nothingMore(Checks c) {
        c.sentence("Behind the whole type nothing more");
        for (char more : "eXmab>{},.:f0 ".toCharArray()) {
            c.protocolDue("e" + more, -101);
            c.protocolDue("mX.e" + more, -104);
            c.protocolDue("a>b{f0:e}" + more, -109);
            c.protocolDue("mX.a>b{f0:X}" + more, -112);
        }
    }
}
