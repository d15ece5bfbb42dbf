/** Terms: the machine of a local type. */
public final class TermsMachineTest {
    public static void main(String[] args) {
        Checks c = new Checks("terms, machines");
        oneForEach(c);
        eachEnd(c);
        inOrder(c);
        aVariable(c);
        manyLoops(c);
        manyStates(c);
        c.finish();
    }

    private static void oneForEach(Checks c) {
        c.sentence("STATES: one for each sending, receiving and end");
        c.partDue("e", 0, ".");
        c.partDue("mX.a>b{f0:X}", 0, "b!f0>0");
        c.partDue("a>b{f0:b>a{f0:e}}", 0, "b!f0>1 b?f0>2 .");
        // types that are alike are states of their own
        c.partDue("a>b{f0:b>a{f0:e},g0:b>a{f0:e}}", 0, "b!f0>1,g0>3 b?f0>2 . b?f0>4 .");
    }

    private static void eachEnd(Checks c) {
        c.sentence("(each e is one)");
        c.partDue("a>b{f0:e,g0:e,h0:e,i0:e,j0:e,k0:e}", 0, "b!f0>1,g0>2,h0>3,i0>4,j0>5,k0>6 . . . . . .");
        c.partDue("a>b{f0:mX.e,g0:mX.c>d{f0:X}}", 0, "b!f0>1,g0>2 . .");
    }

    private static void inOrder(Checks c) {
        c.sentence("(a message, then its branches in their order, each wholly), numbered 0, 1, .. as they are found first");
        c.partDue("a>b{k0:a>b{f0:e,g0:a>b{h0:e}},f0:a>b{i0:e}}", 0,
                "b!k0>1,f0>5 b!f0>2,g0>3 . b!h0>4 . b!i0>6 .");
        RoleSessions x = Checks.withProtocol("mX.a>b{f0:X,g0:e}");
        c.processDue(x, 1, "a?{g0:e,f0:mX.a?{f0:X,g0:e}}", 4);
        c.machineDue(x, 1, "a?g0>1,f0>2 . a?f0>2,g0>3 .");
    }

    private static void aVariable(Checks c) {
        c.sentence("a variable leads to what its loop begins with");
        c.partDue("a>b{f0:mX.b>a{f0:X,g0:e}}", 0, "b!f0>1 b?f0>1,g0>2 .");
        c.partDue("mX.mY.a>b{f0:X,g0:Y}", 1, "a?f0>0,g0>0");
        c.partDue("mX.a>b{f0:mY.b>a{f0:X,g0:Y}}", 0, "b!f0>1 b?f0>0,g0>1");
        // the loop of a role that isn't in it begins where its outer variable leads to
        c.partDue("mX.c>a{f0:mY.a>b{f0:X}}", 2, "a!f0>0");
    }

    private static void manyLoops(Checks c) {
        c.sentence("a variable leads to what its loop begins with, be that a loop in a loop");
        c.partDue("mX." + "mY.".repeat(27) + "a>b{f0:X}", 0, "b!f0>0");
        c.partDue("mX." + "mY.".repeat(27) + "a>b{f0:Y}", 1, "a?f0>0");
        c.partDue("mX." + "mY.".repeat(27) + "a>b{f0:e}", 0, "b!f0>1 .");
        c.partDue("mX.a>b{f0:" + "mY.".repeat(27) + "X}", 0, "b!f0>0");
        c.partDue("mX.".repeat(29) + "e", 0, ".");
        c.partDue("mX.".repeat(27) + "a>b{f0:a>b{f0:e}}", 0, "b!f0>1 b!f0>2 .");
        c.partDue("mX.".repeat(27) + "a>b{f0:a>b{f0:X}}", 1, "a?f0>1 a?f0>0");
        c.partDue("a>b{f0:" + "mX.".repeat(26) + "c>d{f0:X}}", 2, "d!f0>0");
        RoleSessions x = Checks.withProtocol("mX.a>b{f0:X}");
        c.processDue(x, 0, "mX." + "mZ.".repeat(27) + "b!{f0:X}", 1);
        c.machineDue(x, 0, "b!f0>0");
        c.processDue(x, 1, "mX.a?{f0:" + "mZ.".repeat(27) + "X}", 1);
        c.machineDue(x, 1, "a?f0>0");
    }

    private static void manyStates(Checks c) {
        c.sentence("one for each, in the longest texts, too");
        String five = "a>b{f0:e,g0:e,h0:e,i0:e,j0:e,k0:";
        c.partsDue(five + five + five + "e}}}", 19, 19, 1, 1);
        c.partsDue("a>b{f0:".repeat(12) + "e" + "}".repeat(12), 13, 13, 1, 1);
        String row = "b!{f0:e,g0:e,h0:e,i0:e,j0:e,k0:";
        c.processDue(five + five + five + "e}}}", 0, row + row + row + "e}}}", 19);
    }
}
