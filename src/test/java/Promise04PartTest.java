/** What a part, merging and a machine are: see the tests of the terms. */
public final class Promise04PartTest {
    private static final int BAD = RoleSessions.BAD;

    public static void main(String[] args) {
        Checks c = new Checks("promise 4, part");
        howManyStates(c);
        noughtWithoutAPart(c);
        noSuchRole(c);
        noProtocol(c);
        thePartIsNotTheProcess(c);
        c.finish();
    }

    private static void howManyStates(Checks c) {
        c.sentence("How many states the machine of role r's part has");
        c.partsDue("e", 1, 1, 1, 1);
        c.partsDue("mX.a>b{f0:X}", 1, 1, 1, 1);
        c.partsDue("a>b{f0:e,g0:e,h0:e}", 4, 4, 1, 1);
        c.partsDue("a>b{f0:b>c{f0:c>d{f0:e}}}", 2, 3, 3, 2);
        String five = "a>b{f0:e,g0:e,h0:e,i0:e,j0:e,k0:";
        c.partsDue(five + five + five + "e}}}", 19, 19, 1, 1);
    }

    private static void noughtWithoutAPart(Checks c) {
        c.sentence("(0 if there is no part");
        c.partsDue("a>b{f0:c>d{f0:e},g0:c>d{g0:e}}", 3, 3, 0, 3);
        c.partsDue("a>b{f0:e,g0:c>d{f0:e}}", 3, 3, 0, 0);
        c.partsDue("c>d{f0:e,g0:a>b{f0:e}}", 0, 0, 3, 3);
        // a part that an earlier protocol had is not there any more
        RoleSessions x = Checks.withProtocol("c>d{f0:e}");
        c.due("part(2)", x.part(2), 2);
        Checks.typed(x, "a>b{f0:e,g0:c>d{f0:e}}").protocol();
        c.due("part(2)", x.part(2), 0);
        Checks.typed(x, "c>d{f0:e}").protocol();
        c.due("part(2)", x.part(2), 2);
    }

    private static void noSuchRole(Checks c) {
        c.sentence("BAD when there is no such role");
        RoleSessions x = Checks.withProtocol("d>a{f0:e}");
        c.due("part(0)", x.part(0), 2);
        c.due("part(3)", x.part(3), 2);
        for (int r : new int[] {-1, 4, 5, -4, 256, 65536, Integer.MIN_VALUE, Integer.MAX_VALUE}) {
            c.due("part(" + r + ")", x.part(r), BAD);
        }
    }

    private static void noProtocol(Checks c) {
        c.sentence("BAD when there is no protocol");
        RoleSessions x = Checks.typed(new RoleSessions(), "e");
        for (int r = 0; r < 4; r++) {
            c.due("part(" + r + ")", x.part(r), BAD);
        }
        x.protocol();
        c.due("part(0)", x.part(0), 1);
    }

    private static void thePartIsNotTheProcess(Checks c) {
        c.sentence("role r's part, also where it has a process");
        RoleSessions x = Checks.withProtocol("a>b{f0:e,g0:e}");
        c.processDue(x, 0, "b!{f0:e}", 2);
        c.due("part(0)", x.part(0), 3);
    }
}
