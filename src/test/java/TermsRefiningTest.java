/** Terms: when a local type refines a part. */
public final class TermsRefiningTest {
    private static final int REFUSED = RoleSessions.REFUSED;
    private static final String ASKING = "mX.a>b{f0:b>a{g0:X},h1:e}";

    public static void main(String[] args) {
        Checks c = new Checks("terms, refining");
        kinds(c);
        ends(c);
        sameRole(c);
        sendings(c);
        receivings(c);
        goodPairsBehind(c);
        pairsThatComeAgain(c);
        manyPairs(c);
        noPart(c);
        c.finish();
    }

    private static void kinds(Checks c) {
        c.sentence("the pair of the states 0 is good: both are ends; or both send; or both receive");
        String[] protocols = {"e", "a>b{f0:e}", "b>a{f0:e}"};
        String[] processes = {"e", "b!{f0:e}", "b?{f0:e}"};
        for (int part = 0; part < 3; part++) {
            for (int own = 0; own < 3; own++) {
                int states = own == 0 ? 1 : 2;
                c.processDue(protocols[part], 0, processes[own], part == own ? states : REFUSED);
            }
        }
    }

    private static void ends(Checks c) {
        c.sentence("both are ends");
        c.processDue("e", 3, "e", 1);
        c.processDue("mX.a>b{f0:X}", 3, "e", 1);
        c.processDue("a>b{f0:e}", 2, "mX.mY.e", 1);
        c.processDue("a>b{f0:e}", 0, "b!{f0:b!{f0:e}}", REFUSED);
        c.processDue("a>b{f0:a>b{f0:e}}", 0, "b!{f0:e}", REFUSED);
    }

    private static void sameRole(Checks c) {
        c.sentence("to the same role, from the same role");
        for (char partner = 'a'; partner <= 'd'; partner++) {
            c.processDue("a>c{f0:e}", 0, partner + "!{f0:e}", partner == 'c' ? 2 : REFUSED);
            c.processDue("c>a{f0:e}", 0, partner + "?{f0:e}", partner == 'c' ? 2 : REFUSED);
        }
        c.processDue("a>b{f0:a>c{f0:e}}", 0, "b!{f0:b!{f0:e}}", REFUSED);
    }

    private static void sendings(Checks c) {
        c.sentence("each label of the process is one of the part's, of the same sort");
        c.processDue("a>b{f0:e,g1:e}", 0, "b!{f0:e,g1:e}", 3);
        c.processDue("a>b{f0:e,g1:e}", 0, "b!{g1:e,f0:e}", 3);
        c.processDue("a>b{f0:e,g1:e}", 0, "b!{f0:e}", 2);
        c.processDue("a>b{f0:e,g1:e}", 0, "b!{g1:e}", 2);
        c.processDue("a>b{f0:e,g1:e}", 0, "b!{g0:e}", REFUSED);
        c.processDue("a>b{f0:e,g1:e}", 0, "b!{f0:e,g2:e}", REFUSED);
        c.processDue("a>b{f0:e,g1:e}", 0, "b!{h0:e}", REFUSED);
        c.processDue("a>b{f0:e,g1:e}", 0, "b!{f0:e,g1:e,h0:e}", REFUSED);
        c.processDue("a>b{f0:e,g0:e,h0:e,i0:e,j0:e,k0:e}", 0, "b!{k0:e,j0:e,i0:e,h0:e,g0:e,f0:e}", 7);
    }

    private static void receivings(Checks c) {
        c.sentence("each label of the part is one of the process's, of the same sort");
        c.processDue("a>b{f0:e,g1:e}", 1, "a?{f0:e,g1:e}", 3);
        c.processDue("a>b{f0:e,g1:e}", 1, "a?{g1:e,f0:e}", 3);
        c.processDue("a>b{f0:e,g1:e}", 1, "a?{f0:e}", REFUSED);
        c.processDue("a>b{f0:e,g1:e}", 1, "a?{g1:e}", REFUSED);
        c.processDue("a>b{f0:e,g1:e}", 1, "a?{f0:e,g0:e}", REFUSED);
        c.processDue("a>b{f0:e,g1:e}", 1, "a?{f2:e,g1:e}", REFUSED);
        c.processDue("a>b{f0:e,g1:e}", 1, "a?{g1:e,k2:e,f0:e}", 4);
        c.processDue("a>b{f0:e,g1:e}", 1, "a?{f0:e,g1:e,h0:e,i0:e,j0:e,k0:e}", 7);
        // behind a label that the part hasn't, anything goes
        c.processDue("a>b{f0:e,g1:e}", 1, "a?{f0:e,g1:e,h0:mX.b!{i2:c?{f0:X}}}", 5);
    }

    private static void goodPairsBehind(Checks c) {
        c.sentence("and both go on with a good pair, with a good pair behind");
        c.processDue("a>b{f0:b>a{f0:e},g0:e}", 0, "b!{f0:b?{f0:e},g0:e}", 4);
        c.processDue("a>b{f0:b>a{f0:e},g0:e}", 0, "b!{f0:e,g0:e}", REFUSED);
        c.processDue("a>b{f0:b>a{f0:e},g0:e}", 0, "b!{f0:b?{f0:e},g0:b?{f0:e}}", REFUSED);
        c.processDue("a>b{f0:b>a{f0:e},g0:e}", 0, "b!{f0:b?{f1:e},g0:e}", REFUSED);
        c.processDue("a>b{f0:b>a{f0:e},g0:e}", 1, "a?{g0:e,f0:a!{f0:e}}", 4);
        c.processDue("a>b{f0:b>a{f0:e},g0:e}", 1, "a?{f0:e,g0:e}", REFUSED);
        c.processDue("a>b{f0:b>a{f0:e},g0:e}", 1, "a?{g0:a!{f0:e},f0:a!{f0:e}}", REFUSED);
        // fewer behind a sending, more behind a receiving
        c.processDue("a>b{f0:a>b{f0:e,g0:e}}", 0, "b!{f0:b!{g0:e}}", 3);
        c.processDue("a>b{f0:a>b{f0:e,g0:e}}", 1, "a?{f0:a?{g0:e,f0:e,h0:e}}", 5);
        c.processDue("a>b{f0:a>b{f0:e,g0:e}}", 1, "a?{f0:a?{g0:e,h0:e}}", REFUSED);
    }

    private static void pairsThatComeAgain(Checks c) {
        c.sentence("(Pairs that come up again are good if nothing else is against them.)");
        c.processDue("mX.a>b{f0:X}", 0, "mX.b!{f0:X}", 1);
        c.processDue("mX.a>b{f0:X}", 0, "mX.b!{f0:b!{f0:X}}", 2);
        c.processDue("mX.a>b{f0:a>b{f0:X}}", 0, "mX.b!{f0:b!{f0:b!{f0:X}}}", 3);
        c.processDue("mX.a>b{f0:a>b{g0:X}}", 0, "mX.b!{f0:b!{g0:b!{f0:X}}}", REFUSED);
        c.processDue(ASKING, 0, "mX.b!{f0:b?{g0:b!{f0:b?{g0:X,h0:e}}}}", 5);
        c.processDue(ASKING, 0, "b!{f0:b?{g0:mX.b!{f0:b?{g0:X}}}}", 4);
        c.processDue(ASKING, 0, "b!{f0:b?{g0:b!{h1:e}}}", 4);
        c.processDue(ASKING, 0, "b!{f0:b?{g0:e}}", REFUSED);
        // what is against it comes in the second round alone
        c.processDue(ASKING, 0, "mX.b!{f0:b?{g0:b!{f0:b?{g1:X}}}}", REFUSED);
        c.processDue(ASKING, 1, "mX.a?{f0:a!{g0:a?{f0:a!{g0:X},h1:e}},h1:e}", 6);
        c.processDue(ASKING, 1, "mX.a?{f0:a!{g0:a?{f0:a!{g0:X}}},h1:e}", REFUSED);
        c.processDue(ASKING, 1, "mX.a?{f0:a!{g0:X}}", REFUSED);
        // however many pairs come up again before the one that something is against
        String again = "f0:X,g0:X,h0:X,i0:X,j0:X,k0:";
        String protocol = "mX.a>b{" + again + "a>b{k0:a>b{k0:a>b{k0:a>b{k0:a>b{k0:e}}}}}}";
        c.processDue(protocol, 0, "mX.b!{" + again + "b!{k0:b!{k0:b!{k0:b!{k0:b!{k0:e}}}}}}", 7);
        c.processDue(protocol, 0, "mX.b!{" + again + "b!{k0:b!{k0:b!{k0:b!{k0:b!{k1:e}}}}}}", REFUSED);
        c.processDue(protocol, 1, "mX.a?{" + again + "a?{k0:a?{k0:a?{k0:a?{k0:a?{j0:e}}}}}}", REFUSED);
    }

    private static void manyPairs(Checks c) {
        c.sentence("both go on with a good pair, however late it comes up");
        String row = "a>b{f0:".repeat(12) + "e" + "}".repeat(12);
        c.processDue(row, 0, "b!{f0:".repeat(12) + "e" + "}".repeat(12), 13);
        c.processDue(row, 0, "b!{f0:".repeat(11) + "b!{g0:e}" + "}".repeat(11), REFUSED);
        c.processDue(row, 0, "b!{f0:".repeat(11) + "e" + "}".repeat(11), REFUSED);
        c.processDue(row, 1, "a?{f0:".repeat(12) + "a?{f0:e}" + "}".repeat(12), REFUSED);
        // rounds of five and of seven: the process's first state meets the part's last one after fourteen steps
        String seven = "mX.b!{g0:e,f0:" + "b!{f0:".repeat(6) + "X" + "}".repeat(7);
        c.processDue("mX." + "a>b{g0:e,f0:".repeat(4) + "a>b{f0:X}}}}}", 0, seven, REFUSED);
        c.processDue("mX." + "a>b{g0:e,f0:".repeat(4) + "a>b{f0:X,g0:e}}}}}", 0, seven, 8);
        // rounds of five and of five never meet so
        String five = "mX.b!{g0:e,f0:" + "b!{f0:".repeat(4) + "X" + "}".repeat(5);
        c.processDue("mX." + "a>b{g0:e,f0:".repeat(4) + "a>b{f0:X}}}}}", 0, five, 6);
    }

    private static void noPart(Checks c) {
        c.sentence("both have machines");
        c.processDue("a>b{f0:c>d{f0:e},g0:c>d{g0:e}}", 2, "d!{f0:e}", REFUSED);
        c.processDue("a>b{f0:c>d{f0:e},g0:c>d{g0:e}}", 2, "e", REFUSED);
        c.processDue("a>b{f0:c>d{f0:e},g0:c>d{g0:e}}", 3, "c?{f0:e,g0:e}", 3);
    }
}
