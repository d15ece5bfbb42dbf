public final class Promise04PartTest {
    public static void main(String[] args) {
        Checks c = new Checks("promise 4, part");
        ranges(c);
        ownMessages(c);
        loops(c);
        mergingSimple(c);
        mergingSendings(c);
        mergingReceivings(c);
        mergingLoops(c);
        thePartIsNotTheProcess(c);
        c.finish();
    }

    private static void due(Checks c, String text, int a, int b, int ofC, int d) {
        RoleSessions x = Checks.withProtocol(text);
        int[] want = {a, b, ofC, d};
        for (int r = 0; r < 4; r++) {
            c.due("part(" + r + ") of " + text, x.part(r), want[r]);
        }
    }

    private static void machine(Checks c, String text, int r, String want) {
        c.machineDue(Checks.withProtocol(text), r, want);
    }

    private static void ranges(Checks c) {
        RoleSessions x = new RoleSessions();
        c.due("part(0) without a protocol", x.part(0), RoleSessions.BAD);
        Checks.typed(x, "e").protocol();
        c.due("part(0)", x.part(0), 1);
        c.due("part(3)", x.part(3), 1);
        c.due("part(-1)", x.part(-1), RoleSessions.BAD);
        c.due("part(4)", x.part(4), RoleSessions.BAD);
        c.due("part of the least number", x.part(Integer.MIN_VALUE), RoleSessions.BAD);
        c.due("part of the greatest number", x.part(Integer.MAX_VALUE), RoleSessions.BAD);
    }

    private static void ownMessages(Checks c) {
        machine(c, "a>b{k2:e,f1:e}", 0, "b!k2>1,f1>2 . .");
        machine(c, "a>b{k2:e,f1:e}", 1, "a?k2>1,f1>2 . .");
        machine(c, "a>b{k2:e,f1:e}", 2, ".");
        machine(c, "a>b{f0:b>a{g0:e},h0:e}", 0, "b!f0>1,h0>3 b?g0>2 . .");
        machine(c, "d>a{f0:c>d{g1:a>c{h2:e}}}", 0, "d?f0>1 c!h2>2 .");
        machine(c, "d>a{f0:c>d{g1:a>c{h2:e}}}", 1, ".");
        machine(c, "d>a{f0:c>d{g1:a>c{h2:e}}}", 2, "d!g1>1 a?h2>2 .");
        machine(c, "d>a{f0:c>d{g1:a>c{h2:e}}}", 3, "a!f0>1 c?g1>2 .");
        // no part of a branch, no part of the message
        due(c, "a>b{f0:a>b{f0:c>d{f0:e},g0:c>d{g0:e}},g0:e}", 5, 5, 0, 0);
        due(c, "c>a{f0:a>b{f0:c>d{f0:e},g0:e}}", 4, 3, 0, 0);
    }

    private static void loops(Checks c) {
        due(c, "mX.e", 1, 1, 1, 1);
        due(c, "mX.a>b{f0:X}", 1, 1, 1, 1);
        machine(c, "mX.a>b{f0:X}", 0, "b!f0>0");
        machine(c, "mX.a>b{f0:X}", 2, ".");
        machine(c, "mX.mY.a>b{f0:X,g0:Y}", 1, "a?f0>0,g0>0");
        machine(c, "a>b{f0:mX.b>a{f0:X,g0:e}}", 0, "b!f0>1 b?f0>1,g0>2 .");
        // the loop begins with a loop
        machine(c, "mX.a>b{f0:mY.c>d{f0:X}}", 2, "d!f0>0");
        // an inner loop of the same variable is the one that is meant
        machine(c, "mX.a>b{f0:mX.b>a{f0:X}}", 0, "b!f0>1 b?f0>1");
        machine(c, "mX.a>b{f0:mX.b>a{f0:X},g0:X}", 0, "b!f0>1,g0>0 b?f0>1");
        // c is not in the inner loop, but an outer variable is used there, so it stays a loop
        machine(c, "mX.c>a{f0:mY.a>b{f0:X}}", 2, "a!f0>0");
        machine(c, "mX.c>a{f0:mY.a>b{f0:mZ.a>b{f0:X}}}", 2, "a!f0>0");
        // X and Y can't be merged
        due(c, "mX.c>a{f0:mY.a>b{f0:X,g0:Y}}", 2, 1, 0, 1);
        // the X that is used is one of a loop inside, nothing comes from outside: e
        machine(c, "mX.c>a{f0:mY.a>b{f0:mX.a>b{f0:X}}}", 2, "a!f0>1 .");
        // of a loop without c it is e even where the part of its type doesn't exist
        due(c, "mX.a>b{f0:mY.a>b{f0:X,g0:Y}}", 2, 2, 1, 1);
        due(c, "mX.a>b{f0:X,g0:e}", 2, 2, 1, 1);
        due(c, "c>d{f0:mX.a>b{f0:X,g0:e}}", 2, 2, 2, 2);
        // with c in it, there is none
        due(c, "mX.a>b{f0:X,g0:c>d{f0:e}}", 2, 2, 0, 0);
    }

    private static void mergingSimple(Checks c) {
        due(c, "a>b{f0:e,g0:e,h0:e}", 4, 4, 1, 1);
        due(c, "mX.c>a{f0:a>b{f0:X,g0:X}}", 2, 1, 1, 1);
        due(c, "mX.c>a{f0:a>b{f0:X,g0:e}}", 3, 2, 0, 1);
        due(c, "mX.c>a{f0:mY.c>a{f0:a>b{f0:X,g0:Y}}}", 3, 1, 0, 1);
        due(c, "a>b{f0:e,g0:b>c{f0:e}}", 3, 4, 0, 1);
        due(c, "a>b{f0:b>c{f0:e},g0:c>b{f0:e}}", 3, 5, 0, 1);
        due(c, "a>b{f0:b>c{f0:e},g0:e,h0:b>c{f0:e}}", 4, 6, 0, 1);
    }

    private static void mergingSendings(Checks c) {
        machine(c, "a>b{f0:c>d{f0:e,g1:e},g0:c>d{g1:e,f0:e}}", 2, "d!f0>1,g1>2 . .");
        machine(c, "a>b{f0:c>d{g1:e,f0:e},g0:c>d{f0:e,g1:e}}", 3, "c?g1>1,f0>2 . .");
        // another label, another sort, another role, fewer labels, more labels
        due(c, "a>b{f0:c>d{f0:e},g0:c>d{g0:e}}", 3, 3, 0, 3);
        due(c, "a>b{f0:c>d{f0:e},g0:c>d{f1:e}}", 3, 3, 0, 0);
        due(c, "a>b{f0:c>d{f0:e},g0:c>b{f0:e}}", 3, 4, 0, 0);
        due(c, "a>b{f0:c>d{f0:e,g0:e},g0:c>d{f0:e}}", 3, 3, 0, 3);
        due(c, "a>b{f0:c>d{f0:e},g0:c>d{f0:e,g0:e}}", 3, 3, 0, 3);
        // the types behind are merged as well
        due(c, "a>b{f0:c>d{f0:e},g0:c>d{f0:c>d{f0:e}}}", 3, 3, 0, 0);
        machine(c, "a>b{f0:c>d{f0:b>c{f0:e}},g0:c>d{f0:b>c{g0:e}}}", 2, "d!f0>1 b?f0>2,g0>3 . .");
    }

    private static void mergingReceivings(Checks c) {
        machine(c, "a>b{f0:b>c{i0:e,h0:e},g0:b>c{k1:e,h0:e,g2:e}}", 2, "b?i0>1,h0>2,k1>3,g2>4 . . . .");
        machine(c, "a>b{f0:b>c{f0:e},g0:b>c{g0:e},h0:b>c{f0:e,h0:e}}", 2, "b?f0>1,g0>2,h0>3 . . .");
        // the sort of a label that both have, the sender
        due(c, "a>b{f0:b>c{f0:e},g0:b>c{f1:e}}", 3, 5, 0, 1);
        due(c, "a>b{f0:b>c{f0:e},g0:a>c{f0:e}}", 4, 4, 0, 1);
        // the types behind a label that both have
        due(c, "a>b{f0:b>c{f0:e},g0:b>c{f0:c>a{f0:e}}}", 4, 5, 0, 1);
        machine(c, "a>b{f0:b>c{f0:b>c{f0:e}},g0:b>c{f0:b>c{g0:e}}}", 2, "b?f0>1 b?f0>2,g0>3 . .");
        // merged from the first on: the first two can't be merged, whatever comes third
        due(c, "a>b{f0:b>c{f0:e},g0:b>c{f1:e},h0:b>c{g0:e}}", 4, 7, 0, 1);
        // states are numbered as they are found in the merged type
        machine(c, "a>b{f0:b>c{f0:c>b{f0:e},g0:e},g0:b>c{h0:c>b{f0:e},f0:c>b{f0:e}}}", 2,
                "b?f0>1,g0>3,h0>4 b!f0>2 . . b!f0>5 .");
    }

    private static void mergingLoops(Checks c) {
        machine(c, "a>b{f0:mY.b>c{f0:Y,g0:e},g0:mY.b>c{h0:Y,g0:e}}", 2, "b?f0>0,g0>1,h0>0 .");
        // of another variable
        due(c, "a>b{f0:mY.b>c{f0:Y},g0:mX.b>c{f0:X}}", 3, 3, 0, 1);
        // a loop with what is none
        due(c, "a>b{f0:mY.b>c{f0:Y},g0:b>c{f0:e}}", 3, 4, 0, 1);
        // d is in neither loop: e with e
        due(c, "a>b{f0:mY.b>c{f0:Y,g0:e},g0:mX.b>c{f0:X,g0:e}}", 3, 5, 0, 1);
        machine(c, "mX.a>b{f0:b>c{g1:X},h0:b>c{k0:e}}", 2, "b?g1>0,k0>1 .");
    }

    private static void thePartIsNotTheProcess(Checks c) {
        RoleSessions x = Checks.withProtocol("a>b{f0:e,g0:e}");
        c.processDue(x, 0, "b!{f0:e}", 2);
        c.due("part(0)", x.part(0), 3);
    }
}
