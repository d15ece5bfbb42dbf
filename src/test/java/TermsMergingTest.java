/** Terms: which parts can be merged, and what becomes of them. */
public final class TermsMergingTest {
    // Each is looked at as a part of role c; what can be merged with what stands in canMerge.
    private static final String[] TYPES = {
        "e", "mZ.a>b{f0:Z}", "X", "Y",
        "mZ.a>b{f0:X}", "mZ.a>b{f0:Y}", "mX.a>b{f0:Y}",
        "mZ.c>d{f0:Z}", "mX.c>d{f0:X}", "mZ.d>c{f0:Z}",
        "c>d{f0:e}", "c>d{f1:e}", "c>d{g0:e}", "c>a{f0:e}", "c>d{f0:X}", "c>d{f0:e,g0:e}", "c>d{g0:e,f0:e}",
        "d>c{f0:e}", "d>c{f1:e}", "d>c{g0:e}", "a>c{f0:e}", "d>c{f0:X}", "d>c{f0:e,g0:e}"};
    private static final String[] OTHERS_THAT_MERGE = {
        "e", "mZ.a>b{f0:Z}",
        "c>d{f0:e,g0:e}", "c>d{g0:e,f0:e}",
        "d>c{f0:e}", "d>c{g0:e}", "d>c{f1:e}", "d>c{g0:e}", "d>c{f0:X}", "d>c{g0:e}",
        "d>c{f0:e}", "d>c{f0:e,g0:e}", "d>c{g0:e}", "d>c{f0:e,g0:e}"};

    public static void main(String[] args) {
        Checks c = new Checks("terms, merging");
        everyPair(c);
        ends(c);
        variables(c);
        loops(c);
        sendings(c);
        receivings(c);
        oneAfterTheOther(c);
        c.finish();
    }

    private static void everyPair(Checks c) {
        c.sentence("Two local types are merged so .. Otherwise they can't be merged");
        for (String one : TYPES) {
            for (String two : TYPES) {
                RoleSessions x = Checks.withProtocol("mX.mY.d>c{k0:a>b{f0:" + one + ",g0:" + two + "}}");
                c.due("whether c has a part with " + one + " and " + two, x.part(2) > 0, canMerge(one, two));
            }
        }
    }

    private static boolean canMerge(String one, String two) {
        boolean can = one.equals(two);
        for (int k = 0; k < OTHERS_THAT_MERGE.length; k += 2) {
            String a = OTHERS_THAT_MERGE[k];
            String b = OTHERS_THAT_MERGE[k + 1];
            can |= one.equals(a) && two.equals(b) || one.equals(b) && two.equals(a);
        }
        return can;
    }

    private static void ends(Checks c) {
        c.sentence("e with e is e");
        c.partDue("a>b{f0:e,g0:e}", 2, ".");
        c.partDue("a>b{f0:e,g0:mX.a>b{f0:X},h0:mX.e}", 2, ".");
        c.partsDue("mX.c>a{f0:a>b{f0:e,g0:X}}", 3, 2, 0, 1);
    }

    private static void variables(Checks c) {
        c.sentence("a variable with the same one is that");
        c.partDue("mX.c>a{f0:a>b{f0:X,g0:X}}", 2, "a!f0>0");
        c.partDue("mX.c>a{f0:mY.c>a{g0:a>b{f0:Y,g0:Y}}}", 2, "a!f0>1 a!g0>1");
        c.partDue("mX.c>a{f0:mY.c>a{g0:a>b{f0:X,g0:X}}}", 2, "a!f0>1 a!g0>0");
        c.partsDue("mX.c>a{f0:mY.c>a{g0:a>b{f0:X,g0:Y}}}", 3, 1, 0, 1);
    }

    private static void loops(Checks c) {
        c.sentence("loops of the same variable: the loop of their types merged");
        c.partDue("a>b{f0:mY.b>c{f0:Y,g0:e},g0:mY.b>c{h0:Y,g0:e}}", 2, "b?f0>0,g0>1,h0>0 .");
        c.partsDue("a>b{f0:mY.b>c{f0:Y},g0:mX.b>c{f0:X}}", 3, 3, 0, 1);
        c.partsDue("a>b{f0:mY.b>c{f0:Y},g0:b>c{f0:e}}", 3, 4, 0, 1);
        c.partsDue("a>b{f0:mY.c>a{f0:Y},g0:mY.c>a{g0:Y}}", 3, 3, 0, 1);
        // a variable that one loop has alone leads to the beginning of the merged one
        c.partDue("mX.b>c{f0:a>b{f0:mY.b>c{g0:X},g0:mY.b>c{h0:Y}}}", 2, "b?f0>1 b?g0>0,h0>1");
        // however deep the types are
        String deep = "mX.".repeat(11);
        c.partDue("a>b{f0:" + deep + "b>c{f0:X},g0:" + deep + "b>c{g0:X}}", 2, "b?f0>0,g0>0");
        c.partsDue("a>b{f0:" + deep + "c>b{f0:X},g0:" + deep + "c>b{g0:X}}", 3, 3, 0, 1);
        // a loop round a variable is not the variable
        c.partsDue("mX.c>a{f0:a>b{f0:mY.a>b{f0:X},g0:X}}", 3, 2, 0, 1);
    }

    private static void sendings(Checks c) {
        c.sentence("sending to the same role with the same labels (in any order), of the same sorts: "
                + "the types of each label merged, in the order of the first one");
        c.partDue("a>b{f0:c>d{f0:e,g1:e},g0:c>d{g1:e,f0:e}}", 2, "d!f0>1,g1>2 . .");
        c.partDue("a>b{f0:c>d{g1:e,f0:e},g0:c>d{f0:e,g1:e}}", 2, "d!g1>1,f0>2 . .");
        c.partDue("a>b{f0:c>d{f0:b>c{f0:e},g0:e},g0:c>d{g0:e,f0:b>c{g0:e}}}", 2, "d!f0>1,g0>4 b?f0>2,g0>3 . . .");
        // another label, another sort, another role, fewer labels, more labels, other types behind
        c.partsDue("a>b{f0:c>d{f0:e},g0:c>d{g0:e}}", 3, 3, 0, 3);
        c.partsDue("a>b{f0:c>d{f0:e},g0:c>d{f1:e}}", 3, 3, 0, 0);
        c.partsDue("a>b{f0:c>d{f0:e},g0:c>b{f0:e}}", 3, 4, 0, 0);
        c.partsDue("a>b{f0:c>d{f0:e,g0:e},g0:c>d{f0:e}}", 3, 3, 0, 3);
        c.partsDue("a>b{f0:c>d{f0:e},g0:c>d{f0:e,g0:e}}", 3, 3, 0, 3);
        c.partsDue("a>b{f0:c>d{f0:e,g0:e},g0:c>d{f0:e,h0:e}}", 3, 3, 0, 4);
        c.partsDue("a>b{f0:c>d{f0:e},g0:c>d{f0:c>d{f0:e}}}", 3, 3, 0, 0);
        // the last label of several
        c.partsDue("a>b{f0:c>d{f0:e,g0:e},g0:c>d{f0:e,g1:e}}", 3, 3, 0, 0);
        c.partsDue("a>b{f0:c>d{f0:e,g0:e},g0:c>d{f0:e,g0:c>d{f0:e}}}", 3, 3, 0, 0);
    }

    private static void receivings(Checks c) {
        c.sentence("receiving from the same role: branches of a label that both have must have the same sort, and their "
                + "types are merged; those that one has alone stay; first those of the first one in its order, then "
                + "those that the second has alone in its order");
        c.partDue("a>b{f0:b>c{i0:e,h0:e},g0:b>c{k1:e,h0:e,g2:e}}", 2, "b?i0>1,h0>2,k1>3,g2>4 . . . .");
        c.partDue("a>b{f0:b>c{f0:e},g0:b>c{f0:e,g0:e}}", 2, "b?f0>1,g0>2 . .");
        c.partDue("a>b{f0:b>c{f0:e,g0:e},g0:b>c{g0:e}}", 2, "b?f0>1,g0>2 . .");
        c.partDue("a>b{f0:b>c{f0:b>c{f0:e}},g0:b>c{f0:b>c{g0:e}}}", 2, "b?f0>1 b?f0>2,g0>3 . .");
        c.partDue("a>b{f0:b>c{f0:c>b{f0:e},g0:e},g0:b>c{h0:c>b{f0:e},f0:c>b{f0:e}}}", 2,
                "b?f0>1,g0>3,h0>4 b!f0>2 . . b!f0>5 .");
        c.partsDue("a>b{f0:b>c{f0:e},g0:b>c{f1:e}}", 3, 5, 0, 1);
        c.partsDue("a>b{f0:b>c{f0:e,g0:e},g0:b>c{h0:e,g1:e}}", 3, 7, 0, 1);
        c.partsDue("a>b{f0:b>c{f0:e},g0:a>c{f0:e}}", 4, 4, 0, 1);
        c.partsDue("a>b{f0:b>c{f0:e},g0:b>c{f0:c>a{f0:e}}}", 4, 5, 0, 1);
        // no label that both have: there is nothing that could differ
        c.partDue("a>b{f0:b>c{f0:e},g0:b>c{g1:c>a{f0:e}}}", 2, "b?f0>1,g1>2 . a!f0>3 .");
    }

    private static void oneAfterTheOther(Checks c) {
        c.sentence("the parts of its branches, from the first on, one after the other");
        c.partsDue("a>b{f0:b>c{f0:e},g0:b>c{f1:e},h0:b>c{g0:e}}", 4, 7, 0, 1);
        c.partsDue("a>b{f0:b>c{f0:e},g0:b>c{g0:e},h0:b>c{g1:e}}", 4, 7, 0, 1);
        c.partsDue("a>b{f0:b>c{f0:e},g0:b>c{f0:e},h0:e}", 4, 6, 0, 1);
        c.partDue("a>b{f0:b>c{h0:e},g0:b>c{f0:e,h0:e},h0:b>c{g0:e,f0:e}}", 2, "b?h0>1,f0>2,g0>3 . . .");
    }
}
