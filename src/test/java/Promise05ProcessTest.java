/** What a local type and refining are: see the tests of the terms. */
public final class Promise05ProcessTest {
    private static final int BAD = RoleSessions.BAD;
    private static final int REFUSED = RoleSessions.REFUSED;
    private static final String NO_PART_OF_C = "a>b{f0:c>d{f0:e},g0:c>d{g0:e}}";

    public static void main(String[] args) {
        Checks c = new Checks("promise 5, process");
        becomesTheProcess(c);
        noSessionIsThereThen(c);
        howManyStates(c);
        noSuchRole(c);
        noProtocol(c);
        theFault(c);
        refusedThatDoesNotRefine(c);
        refusedWithoutAPart(c);
        keepsWhatItHad(c);
        theTextStays(c);
        oneProcessAfterTheOther(c);
        c.finish();
    }

    private static void becomesTheProcess(Checks c) {
        c.sentence("The text, a local type, becomes the process of role r, if it refines its part");
        RoleSessions x = Checks.withProtocol("a>b{f0:e,g0:e}");
        c.processDue(x, 0, "b!{g0:e}", 2);
        c.machineDue(x, 0, "b!g0>1 .");
        c.machineDue(x, 1, "a?f0>1,g0>2 . .");
        c.processDue(x, 1, "a?{h0:e,g0:e,f0:e}", 4);
        c.machineDue(x, 1, "a?h0>1,g0>2,f0>3 . . .");
        c.machineDue(x, 0, "b!g0>1 .");
        // it is held against the part, not against the process before
        c.processDue(x, 0, "b!{f0:e}", 2);
        c.machineDue(x, 0, "b!f0>1 .");
        c.due("size(1)", x.size(1), 3);
        for (int r = 0; r < 4; r++) {
            RoleSessions y = Checks.withProtocol("e");
            c.processDue(y, r, "mX.e", 1);
        }
    }

    private static void noSessionIsThereThen(Checks c) {
        c.sentence("no session is there then");
        RoleSessions x = Checks.inSession("a>b{f0:e,g0:e}");
        x.send(0, 1);
        c.processDue(x, 1, "a?{g0:e,f0:e}", 3);
        c.due("size(2)", x.size(2), 0);
        c.due("size(3)", x.size(3), 0);
        c.due("at(0, 0)", x.at(0, 0), BAD);
        c.due("receive(1)", x.receive(1), BAD);
        c.due("begin()", x.begin(), true);
        c.due("queue(0, 1)", x.queue(0, 1), 0);
        c.due("at(0, 0)", x.at(0, 0), 0);
        // of a role that has nothing to do, too
        c.processDue(x, 3, "e", 1);
        c.due("size(2)", x.size(2), 0);
    }

    private static void howManyStates(Checks c) {
        c.sentence("How many states its machine has");
        c.processDue("e", 0, "e", 1);
        c.processDue("e", 0, "mX.".repeat(29) + "e", 1);
        c.processDue("mX.a>b{f0:X}", 0, "mX.b!{f0:X}", 1);
        c.processDue("mX.a>b{f0:X}", 0, "mX.b!{f0:b!{f0:b!{f0:X}}}", 3);
        c.processDue("a>b{f0:e}", 1, "a?{f0:e,g0:e,h0:e,i0:e,j0:e,k0:e}", 7);
    }

    private static void noSuchRole(Checks c) {
        c.sentence("BAD when there is no such role");
        RoleSessions x = Checks.typed(Checks.withProtocol("e"), "e");
        for (int r : new int[] {-1, 4, 5, 256, 65536, Integer.MIN_VALUE, Integer.MAX_VALUE}) {
            c.due("process(" + r + ")", x.process(r), BAD);
        }
        c.due("process(3)", x.process(3), 1);
        // also where the text is at fault or doesn't refine
        c.due("process(4)", Checks.typed(x, "b!{").process(4), BAD);
        c.due("process(4)", Checks.typed(x, "f0:e}").process(4), BAD);
        c.due("process(0)", x.process(0), REFUSED);
    }

    private static void noProtocol(Checks c) {
        c.sentence("BAD when there is no protocol");
        RoleSessions x = Checks.typed(new RoleSessions(), "e");
        for (int r = 0; r < 4; r++) {
            c.due("process(" + r + ")", x.process(r), BAD);
        }
        c.due("protocol()", x.protocol(), 1);
        c.due("process(0) of no text", x.process(0), -100);
    }

    private static void theFault(Checks c) {
        c.sentence("-100 - place when it is at fault");
        c.processDue("e", 0, "", -100);
        c.processDue("e", 3, "?", -100);
        c.processDue("e", 0, "ee", -101);
        c.processDue("e", 0, "a>b{f0:e}", -101);
        c.processDue("e", 0, "b!{f0:".repeat(16) + "b!{e", -199);
        c.processDue("e", 0, "b!{f0:".repeat(16) + "b!{f", -200);
        // before it is asked whether it refines, and whether there is a part
        c.processDue("a>b{f0:e}", 0, "b!{k0", -105);
        c.processDue(NO_PART_OF_C, 2, "d!{f0", -105);
        c.processDue(NO_PART_OF_C, 2, "", -100);
    }

    private static void refusedThatDoesNotRefine(Checks c) {
        c.sentence("REFUSED when it does not refine the part");
        c.processDue("e", 0, "b!{f0:e}", REFUSED);
        c.processDue("a>b{f0:e}", 0, "e", REFUSED);
        c.processDue("a>b{f0:e}", 0, "b!{g0:e}", REFUSED);
        c.processDue("a>b{f0:e}", 0, "b!{f1:e}", REFUSED);
        c.processDue("a>b{f0:e,g0:e}", 1, "a?{f0:e}", REFUSED);
        c.processDue("a>b{f0:e}", 2, "b?{f0:e}", REFUSED);
    }

    private static void refusedWithoutAPart(Checks c) {
        c.sentence("REFUSED when that or the part's machine isn't there");
        c.processDue(NO_PART_OF_C, 2, "d!{f0:e}", REFUSED);
        c.processDue(NO_PART_OF_C, 2, "d!{f0:e,g0:e}", REFUSED);
        c.processDue(NO_PART_OF_C, 2, "e", REFUSED);
        c.processDue(NO_PART_OF_C, 3, "c?{f0:e,g0:e}", 3);
        RoleSessions x = Checks.withProtocol(NO_PART_OF_C);
        c.processDue(x, 2, "e", REFUSED);
        c.due("part(2)", x.part(2), 0);
        c.machineDue(x, 2, "");
        c.due("begin()", x.begin(), false);
    }

    private static void keepsWhatItHad(Checks c) {
        c.sentence("(the role keeps what it had)");
        RoleSessions x = Checks.withProtocol("a>b{f0:e,g0:e}");
        c.processDue(x, 0, "b!{h0:e}", REFUSED);
        c.machineDue(x, 0, "b!f0>1,g0>2 . .");
        c.processDue(x, 0, "b!{g0:e}", 2);
        x.begin();
        String before = Checks.lookAtAll(x);
        c.processDue(x, 0, "b!{h0:e}", REFUSED);
        c.processDue(x, 0, "b!{h0", -105);
        c.due("all of it", Checks.lookAtAll(x), before);
        c.machineDue(x, 0, "b!g0>1 .");
        c.due("send(0, 0)", x.send(0, 0), REFUSED);
        c.due("send(0, 1)", x.send(0, 1), 1);
    }

    private static void theTextStays(Checks c) {
        c.sentence("(With BAD the text stays.)");
        RoleSessions x = Checks.typed(new RoleSessions(), "e");
        c.due("process(0) without a protocol", x.process(0), BAD);
        c.due("size(0)", x.size(0), 1);
        x.protocol();
        Checks.typed(x, "mX.e");
        c.due("process(4)", x.process(4), BAD);
        c.due("process(-1)", x.process(-1), BAD);
        c.due("size(0)", x.size(0), 4);
        c.due("process(2)", x.process(2), 1);
        c.due("size(0)", x.size(0), 0);
    }

    private static void oneProcessAfterTheOther(Checks c) {
        c.sentence("becomes the process, however many there were before");
        RoleSessions x = Checks.withProtocol("a>b{f0:e,g0:a>b{f0:e}}");
        for (int k = 0; k < 3; k++) {
            c.processDue(x, 0, "b!{g0:b!{f0:e},f0:e}", 4);
            c.processDue(x, 0, "b!{g0:b!{g0:e},f0:e}", REFUSED);
            c.machineDue(x, 0, "b!g0>1,f0>3 b!f0>2 . .");
            c.processDue(x, 1, "a?{g0:a?{f0:e},f0:e,h0:e}", 5);
            c.processDue(x, 1, "a?{g0:a?{g0:e},f0:e,h0:e}", REFUSED);
        }
        c.machineDue(x, 1, "a?g0>1,f0>3,h0>4 a?f0>2 . . .");
        c.machineDue(x, 0, "b!g0>1,f0>3 b!f0>2 . .");
        // what was held against the part before has nothing to do with the next one
        x = Checks.withProtocol("a>b{f0:e,g0:b>a{f0:e}}");
        c.processDue(x, 0, "b!{g0:b?{f0:e}}", 3);
        c.processDue(x, 0, "b!{f0:e,g0:b?{f0:e}}", 4);
        c.processDue(x, 0, "b!{f0:b?{f0:e}}", REFUSED);
        c.processDue(x, 0, "b!{f0:e}", 2);
        c.processDue(x, 0, "b!{g0:e}", REFUSED);
        c.processDue(x, 0, "b!{g0:b?{f0:e},f0:e}", 4);
        c.processDue(x, 1, "a?{g0:a!{f0:e},f0:e}", 4);
        c.processDue(x, 2, "e", 1);
    }
}
