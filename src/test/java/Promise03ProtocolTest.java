public final class Promise03ProtocolTest {
    public static void main(String[] args) {
        Checks c = new Checks("promise 3, protocol");
        goodTexts(c);
        faultsOfForm(c);
        faultsOfVariables(c);
        thirtyTypes(c);
        sixLabels(c);
        aNewProtocolClearsAll(c);
        aFaultLeavesAll(c);
        oneTextAfterTheOther(c);
        c.finish();
    }

    private static void goodTexts(Checks c) {
        c.protocolDue("e", 1);
        c.protocolDue("mX.e", 2);
        c.protocolDue("mZ.mY.e", 3);
        c.protocolDue("a>b{f0:e}", 2);
        c.protocolDue("d>c{k2:e}", 2);
        c.protocolDue("a>b{f0:e,g1:e,h2:e}", 4);
        c.protocolDue("mX.a>b{f0:X}", 3);
        c.protocolDue("mX.mY.a>b{f0:X,g0:Y}", 5);
        c.protocolDue("mX.a>b{f0:mY.b>a{f0:X}}", 5);
        c.protocolDue("mX.a>b{f0:mX.b>c{f0:X}}", 5);
        c.protocolDue("a>b{f0:a>b{f0:e}}", 3);
        c.protocolDue("mX.a>b{f0:X,g0:mX.a>b{f0:X},h0:X}", 7);
    }

    private static void faultsOfForm(Checks c) {
        c.protocolDue("", -100);
        c.protocolDue("ee", -101);
        c.protocolDue("e ", -101);
        c.protocolDue("f", -100);
        c.protocolDue("l", -100);
        c.protocolDue("E", -100);
        c.protocolDue("}", -100);
        c.protocolDue("m", -101);
        c.protocolDue("mW.e", -101);
        c.protocolDue("ma.e", -101);
        c.protocolDue("mX", -102);
        c.protocolDue("mX:e", -102);
        c.protocolDue("mX.", -103);
        c.protocolDue("a", -101);
        c.protocolDue("ab", -101);
        c.protocolDue("a!{f0:e}", -101);
        c.protocolDue("a?{f0:e}", -101);
        c.protocolDue("a>", -102);
        c.protocolDue("a>a{f0:e}", -102);
        c.protocolDue("a>e{f0:e}", -102);
        c.protocolDue("a>b", -103);
        c.protocolDue("a>b(f0:e)", -103);
        c.protocolDue("a>b{", -104);
        c.protocolDue("a>b{}", -104);
        c.protocolDue("a>b{e0:e}", -104);
        c.protocolDue("a>b{l0:e}", -104);
        c.protocolDue("a>b{f", -105);
        c.protocolDue("a>b{f3:e}", -105);
        c.protocolDue("a>b{f/:e}", -105);
        c.protocolDue("a>b{f:e}", -105);
        c.protocolDue("a>b{f0", -106);
        c.protocolDue("a>b{f0e}", -106);
        c.protocolDue("a>b{f0:", -107);
        c.protocolDue("a>b{f0:}", -107);
        c.protocolDue("a>b{f0:e", -108);
        c.protocolDue("a>b{f0:e;", -108);
        c.protocolDue("a>b{f0:e,", -109);
        c.protocolDue("a>b{f0:e,}", -109);
        c.protocolDue("a>b{f0:e,f1:e}", -109);
        c.protocolDue("a>b{f0:e,g1:e,f0:e}", -114);
        c.protocolDue("a>b{f0:e}}", -109);
        c.protocolDue("a>b{f0:e},", -109);
        c.protocolDue("a>b{f0:a>b{f0:e}", -116);
        c.protocolDue("a>b{f0:ee}", -108);
    }

    private static void faultsOfVariables(Checks c) {
        c.protocolDue("X", -100);
        c.protocolDue("W", -100);
        c.protocolDue("mX.X", -103);
        c.protocolDue("mX.Y", -103);
        c.protocolDue("mX.mY.X", -106);
        c.protocolDue("a>b{f0:mX.X}", -110);
        c.protocolDue("a>b{f0:Y}", -107);
        c.protocolDue("mX.a>b{f0:Y}", -110);
        c.protocolDue("mX.a>b{f0:mX.X}", -113);
        c.protocolDue("mX.a>b{f0:mY.mX.X}", -116);
        // out of the loop again
        c.protocolDue("a>b{f0:mX.a>b{f0:X},g0:X}", -123);
        // out of the inner loop of the same variable: the outer one is meant again
        c.protocolDue("mX.a>b{f0:mX.e,g0:X}", 5);
        // the message is between it and the outer loop alone
        c.protocolDue("mY.a>b{f0:mX.mY.Y}", -116);
    }

    private static void thirtyTypes(Checks c) {
        c.protocolDue("mX.".repeat(29) + "e", 30);
        c.protocolDue("mX.".repeat(30) + "e", -190);
        c.protocolDue("mX.".repeat(30) + "q", -190);
        c.protocolDue("mX.".repeat(30), -190);
        c.protocolDue("mX.".repeat(27) + "a>b{f0:e,g0:e}", 30);
        c.protocolDue("mX.".repeat(28) + "a>b{f0:e,g0:e}", -196);
        c.protocolDue("mX.".repeat(28) + "a>b{f0:X,g0:X}", -196);
        c.protocolDue("mX.".repeat(29) + "a>b{f0:e}", -194);
        c.protocolDue("mX.".repeat(29) + "X", -187);
    }

    private static void sixLabels(Checks c) {
        c.protocolDue("a>b{f0:e,g0:e,h0:e,i0:e,j0:e,k0:e}", 7);
        c.protocolDue("a>b{k2:e,j1:e,i0:e,h2:e,g1:e,f0:e}", 7);
        // a comma can stand behind any branch; what comes then is at fault
        c.protocolDue("a>b{f0:e,g0:e,h0:e,i0:e,j0:e,k0:e,f0:e}", -134);
        c.protocolDue("a>b{f0:e,g0:e,h0:e,i0:e,j0:e,k0:e,}", -134);
        c.protocolDue("a>b{f0:e,g0:e,h0:e,i0:e,j0:e,k0:e,", -134);
        // other messages have labels of their own
        c.protocolDue("a>b{f0:a>b{f0:e,g0:e},g0:a>b{g0:e,f0:e}}", 7);
    }

    private static void aNewProtocolClearsAll(Checks c) {
        RoleSessions x = Checks.withProtocol("a>b{f0:e,g0:e}");
        c.processDue(x, 0, "b!{f0:e}", 2);
        c.due("begin()", x.begin(), true);
        c.due("protocol()", Checks.typed(x, "a>b{f0:e,g0:e}").protocol(), 3);
        c.due("size(0)", x.size(0), 0);
        c.due("size(1)", x.size(1), 3);
        c.due("size(2)", x.size(2), 0);
        c.due("at(0, 0)", x.at(0, 0), RoleSessions.BAD);
        c.machineDue(x, 0, "b!f0>1,g0>2 . .");
    }

    private static void aFaultLeavesAll(Checks c) {
        RoleSessions x = Checks.withProtocol("a>b{f0:e,g0:e}");
        c.processDue(x, 0, "b!{f0:e}", 2);
        c.due("begin()", x.begin(), true);
        c.due("send(0, 0)", x.send(0, 0), 1);
        c.due("estrange(1)", x.estrange(1), true);
        c.due("say(1, 0, 0, 0)", x.say(1, 0, 0, 0), RoleSessions.REFUSED);
        c.due("protocol()", Checks.typed(x, "mX.a>b{f0:X},").protocol(), -112);
        c.due("size(0)", x.size(0), 0);
        c.due("size(1)", x.size(1), 3);
        c.due("size(2)", x.size(2), 1);
        c.due("size(3)", x.size(3), 1);
        c.due("at(0, 0)", x.at(0, 0), 1);
        c.due("at(1, 1)", x.at(1, 1), 1);
        c.due("queue(0, 1)", x.queue(0, 1), 1);
        c.machineDue(x, 0, "b!f0>1 .");
        c.due("part(0)", x.part(0), 3);
        c.due("take(1, 0)", x.take(1, 0), 1);
    }

    private static void oneTextAfterTheOther(Checks c) {
        RoleSessions x = new RoleSessions();
        // what an earlier, longer text had is not there any more
        c.due("protocol()", Checks.typed(x, "a>b{f0:e,g0:e}").protocol(), 3);
        c.due("protocol()", Checks.typed(x, "a>b{f0:e").protocol(), -108);
        c.due("protocol()", Checks.typed(x, "a>b{f0").protocol(), -106);
        c.due("protocol()", Checks.typed(x, "").protocol(), -100);
        for (int k = 0; k < 8; k++) {
            c.due("protocol()", Checks.typed(x, "c>d{f0:e,g0:e,h0:e,i0:e,j0:e,k0:e}").protocol(), 7);
            c.machineDue(x, 2, "d!f0>1,g0>2,h0>3,i0>4,j0>5,k0>6 . . . . . .");
            c.machineDue(x, 3, "c?f0>1,g0>2,h0>3,i0>4,j0>5,k0>6 . . . . . .");
            c.machineDue(x, 0, ".");
        }
    }
}
