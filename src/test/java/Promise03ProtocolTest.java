/** What a global type is and where it is at fault: see the tests of the terms. */
public final class Promise03ProtocolTest {
    private static final int BAD = RoleSessions.BAD;

    public static void main(String[] args) {
        Checks c = new Checks("promise 3, protocol");
        becomesTheProtocol(c);
        processesAreGone(c);
        noSessionIsThere(c);
        howManyTypes(c);
        theFault(c);
        theProtocolStays(c);
        allElseStays(c);
        aFaultWithoutAProtocol(c);
        oneTextAfterTheOther(c);
        c.finish();
    }

    private static void becomesTheProtocol(Checks c) {
        c.sentence("The text, a global type, becomes the protocol");
        RoleSessions x = Checks.withProtocol("a>b{f0:e}");
        c.machineDue(x, 0, "b!f0>1 .");
        c.due("protocol()", Checks.typed(x, "mX.c>d{g1:X,h2:e}").protocol(), 4);
        c.machineDue(x, 0, ".");
        c.machineDue(x, 2, "d!g1>0,h2>1 .");
        c.due("size(1)", x.size(1), 4);
        c.due("protocol()", Checks.typed(x, "e").protocol(), 1);
        c.machineDue(x, 2, ".");
    }

    private static void processesAreGone(Checks c) {
        c.sentence("processes are gone");
        RoleSessions x = Checks.withProtocol("a>b{f0:c>d{f0:e,g0:e},g0:c>d{f0:e,g0:e}}");
        c.processDue(x, 0, "b!{f0:e}", 2);
        c.processDue(x, 1, "a?{g0:e,f0:e}", 3);
        c.processDue(x, 2, "d!{g0:e}", 2);
        c.processDue(x, 3, "c?{g0:e,f0:e}", 3);
        // the very same protocol again
        c.due("protocol()", Checks.typed(x, "a>b{f0:c>d{f0:e,g0:e},g0:c>d{f0:e,g0:e}}").protocol(), 7);
        c.machineDue(x, 0, "b!f0>1,g0>2 . .");
        c.machineDue(x, 1, "a?f0>1,g0>2 . .");
        c.machineDue(x, 2, "d!f0>1,g0>2 . .");
        c.machineDue(x, 3, "c?f0>1,g0>2 . .");
    }

    private static void noSessionIsThere(Checks c) {
        c.sentence("and no session is there");
        RoleSessions x = Checks.inSession("a>b{f0:e,g0:e}");
        x.send(0, 0);
        c.due("protocol()", Checks.typed(x, "a>b{f0:e,g0:e}").protocol(), 3);
        c.due("size(2)", x.size(2), 0);
        c.due("size(3)", x.size(3), 0);
        c.due("at(0, 0)", x.at(0, 0), BAD);
        c.due("ready()", x.ready(), -1);
        c.due("receive(1)", x.receive(1), BAD);
        c.due("begin()", x.begin(), true);
        c.due("queue(0, 1)", x.queue(0, 1), 0);
    }

    private static void howManyTypes(Checks c) {
        c.sentence("How many types stand in it");
        c.protocolDue("e", 1);
        c.protocolDue("mX.e", 2);
        c.protocolDue("a>b{f0:e}", 2);
        c.protocolDue("mX.a>b{f0:X}", 3);
        c.protocolDue("a>b{f0:e,g1:e,h2:e}", 4);
        c.protocolDue("a>b{f0:a>b{f0:e}}", 3);
        c.protocolDue("mX.mY.a>b{f0:X,g0:Y}", 5);
        c.protocolDue("mX.a>b{f0:X,g0:mX.a>b{f0:X},h0:X}", 7);
        c.protocolDue("mX.".repeat(29) + "e", 30);
    }

    private static void theFault(Checks c) {
        c.sentence("-100 - place when it is at fault");
        c.protocolDue("", -100);
        c.protocolDue("?", -100);
        c.protocolDue("a", -101);
        c.protocolDue("a>b{f0:e,", -109);
        c.protocolDue("a>b{f0:".repeat(14) + "aa", -199);
        c.protocolDue("a>b{f0:".repeat(14) + "a>", -200);
    }

    private static void theProtocolStays(Checks c) {
        c.sentence("(the protocol stays then");
        RoleSessions x = Checks.withProtocol("a>b{f0:e,g0:e}");
        c.due("protocol() with a fault", Checks.typed(x, "mX.c>d{f0:X},").protocol(), -112);
        c.due("size(1)", x.size(1), 3);
        c.machineDue(x, 0, "b!f0>1,g0>2 . .");
        c.machineDue(x, 2, ".");
        c.due("protocol() of no text", x.protocol(), -100);
        c.due("size(1)", x.size(1), 3);
        c.due("part(1)", x.part(1), 3);
    }

    private static void allElseStays(Checks c) {
        c.sentence("with all else)");
        RoleSessions x = Checks.withProtocol("a>b{f0:e,g0:e}");
        c.processDue(x, 0, "b!{f0:e}", 2);
        x.begin();
        x.send(0, 0);
        x.estrange(1);
        x.say(1, 0, 0, 0);
        String before = Checks.lookAtAll(x);
        c.due("protocol() with a fault", Checks.typed(x, "mX.a>b{f0:X},").protocol(), -112);
        c.due("all else", Checks.lookAtAll(x), before);
        c.due("size(0)", x.size(0), 0);
        c.machineDue(x, 0, "b!f0>1 .");
        c.due("take(1, 0)", x.take(1, 0), 1);
    }

    private static void aFaultWithoutAProtocol(Checks c) {
        c.sentence("at fault, where no protocol is there");
        RoleSessions x = Checks.typed(new RoleSessions(), "a>b{f0:e");
        c.due("protocol()", x.protocol(), -108);
        c.due("size(1)", x.size(1), 0);
        c.due("part(0)", x.part(0), BAD);
        c.due("begin()", x.begin(), false);
    }

    private static void oneTextAfterTheOther(Checks c) {
        c.sentence("the text alone: nothing of an earlier, longer one");
        RoleSessions x = new RoleSessions();
        c.due("protocol()", Checks.typed(x, "a>b{f0:e,g0:e}").protocol(), 3);
        c.due("protocol()", Checks.typed(x, "a>b{f0:e").protocol(), -108);
        c.due("protocol()", Checks.typed(x, "a>b{f0").protocol(), -106);
        c.due("protocol()", x.protocol(), -100);
        for (int k = 0; k < 8; k++) {
            c.due("protocol()", Checks.typed(x, "c>d{f0:e,g0:e,h0:e,i0:e,j0:e,k0:e}").protocol(), 7);
        }
        c.machineDue(x, 2, "d!f0>1,g0>2,h0>3,i0>4,j0>5,k0>6 . . . . . .");
        c.machineDue(x, 3, "c?f0>1,g0>2,h0>3,i0>4,j0>5,k0>6 . . . . . .");
        c.machineDue(x, 0, ".");
    }
}
