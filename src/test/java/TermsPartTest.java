/** Terms: the part of a role in a global type. */
public final class TermsPartTest {
    public static void main(String[] args) {
        Checks c = new Checks("terms, parts");
        ofAnEnd(c);
        ofAVariable(c);
        ofALoopWithTheRole(c);
        ofALoopWithAnOuterVariable(c);
        noneIfThatDoesNotExist(c);
        otherwiseAnEnd(c);
        ofOwnMessages(c);
        ofMessagesOfOthers(c);
        noPart(c);
        c.finish();
    }

    private static void ofAnEnd(Checks c) {
        c.sentence("THE PART of e: e");
        c.partsDue("e", 1, 1, 1, 1);
        c.partDue("e", 3, ".");
    }

    private static void ofAVariable(Checks c) {
        c.sentence("Of a variable: that variable");
        c.partDue("mX.mY.a>b{f0:b>a{f0:X,g0:Y}}", 0, "b!f0>1 b?f0>0,g0>0");
        c.partDue("mX.a>b{f0:mY.b>a{f0:X,g0:Y}}", 0, "b!f0>1 b?f0>0,g0>1");
        c.partDue("mZ.a>b{f0:mY.b>a{f0:Y,g0:Z}}", 1, "a?f0>1 a!f0>1,g0>0");
    }

    private static void ofALoopWithTheRole(Checks c) {
        c.sentence("Of a loop: if r stands in its type the loop of the part of its type");
        c.partDue("mX.a>b{f0:X}", 0, "b!f0>0");
        c.partDue("mX.a>b{f0:X}", 1, "a?f0>0");
        // it stands deep inside, as the sender, as the receiver, in the last branch
        c.partDue("mX.a>b{f0:a>b{f0:c>d{f0:X}}}", 2, "d!f0>0");
        c.partDue("mX.a>b{f0:a>b{f0:c>d{f0:X}}}", 3, "c?f0>0");
        c.partDue("mX.a>b{f0:a>c{f0:X},g0:a>c{g0:e}}", 2, "a?f0>0,g0>1 .");
        c.partDue("mX.mY.a>b{f0:mZ.c>d{f0:X}}", 2, "d!f0>0");
    }

    private static void ofALoopWithAnOuterVariable(Checks c) {
        c.sentence("or a variable that is not its own is used in it (bound outside of it)");
        c.partDue("mX.c>a{f0:mY.a>b{f0:X}}", 2, "a!f0>0");
        c.partDue("mX.c>a{f0:mY.a>b{f0:mZ.a>b{f0:X}}}", 2, "a!f0>0");
        c.partDue("mX.c>a{f0:mY.a>b{f0:a>b{f0:X},g0:X}}", 2, "a!f0>0");
        // a variable of a loop inside of it is not bound outside
        c.partDue("mX.c>a{f0:mY.a>b{f0:mX.a>b{f0:X}}}", 2, "a!f0>1 .");
        c.partDue("mX.c>a{f0:mY.a>b{f0:mZ.a>b{f0:Y,g0:Z}}}", 2, "a!f0>1 .");
        // its own variable alone: the outer loop of the same one is not meant
        c.partDue("mX.c>a{f0:mX.a>b{f0:X}}", 2, "a!f0>1 .");
        // own in one branch, of an outer loop in the other
        c.partsDue("mX.c>a{f0:mX.a>b{f0:a>b{f0:X},g0:X}}", 3, 2, 2, 1);
    }

    private static void noneIfThatDoesNotExist(Checks c) {
        c.sentence("the loop of the part of its type (none, if that doesn't exist)");
        c.partsDue("mX.a>b{f0:X,g0:c>d{f0:e}}", 2, 2, 0, 0);
        c.partsDue("mX.c>a{f0:mY.a>b{f0:X,g0:Y}}", 2, 1, 0, 1);
        c.partsDue("mX.c>a{f0:mY.a>b{f0:X,g0:e}}", 3, 2, 0, 1);
        c.partsDue("mZ.mX.a>b{f0:X,g0:c>d{f0:e}}", 2, 2, 0, 0);
    }

    private static void otherwiseAnEnd(Checks c) {
        c.sentence("otherwise e (also when that part doesn't exist)");
        c.partDue("mX.a>b{f0:X}", 2, ".");
        c.partDue("mX.e", 0, ".");
        // of its type the part of c would be X merged with e, or X with Y
        c.partsDue("mX.a>b{f0:X,g0:e}", 2, 2, 1, 1);
        c.partsDue("mX.a>b{f0:mY.a>b{f0:X,g0:Y}}", 2, 2, 1, 1);
        c.partsDue("c>d{f0:mX.a>b{f0:X,g0:e}}", 2, 2, 2, 2);
        c.partDue("c>d{f0:mX.a>b{f0:X,g0:e}}", 2, "d!f0>1 .");
    }

    private static void ofOwnMessages(Checks c) {
        c.sentence("Of a message from r to q: sending to q, the branches with their parts. To r from p: receiving likewise");
        for (int p = 0; p < 4; p++) {
            for (int q = 0; q < 4; q++) {
                if (p != q) {
                    String text = "" + (char) ('a' + p) + ">" + (char) ('a' + q) + "{k2:e,f1:e}";
                    c.partDue(text, p, (char) ('a' + q) + "!k2>1,f1>2 . .");
                    c.partDue(text, q, (char) ('a' + p) + "?k2>1,f1>2 . .");
                    c.partDue(text, otherThan(p, q), ".");
                }
            }
        }
        c.partDue("a>b{f0:b>a{g0:e},h0:e}", 0, "b!f0>1,h0>3 b?g0>2 . .");
    }

    private static int otherThan(int p, int q) {
        int r = 0;
        while (r == p || r == q) {
            r++;
        }
        return r;
    }

    private static void ofMessagesOfOthers(Checks c) {
        c.sentence("Of a message of others: the MERGING of the parts of its branches, from the first on");
        c.partDue("a>b{f0:c>d{g1:e}}", 2, "d!g1>1 .");
        c.partDue("a>b{f0:b>c{f0:e},g0:b>c{g0:e},h0:b>c{f0:e,h0:e}}", 2, "b?f0>1,g0>2,h0>3 . . .");
        c.partDue("a>b{f0:b>c{h0:e},g0:b>c{g0:e},h0:b>c{f0:e}}", 2, "b?h0>1,g0>2,f0>3 . . .");
        // all six labels, brought together one by one
        c.partDue("a>b{f0:b>c{k0:e},g0:b>c{j0:e},h0:b>c{i0:e},i0:b>c{h0:e},j0:b>c{g0:e},k0:b>c{f0:e}}", 2,
                "b?k0>1,j0>2,i0>3,h0>4,g0>5,f0>6 . . . . . .");
    }

    private static void noPart(Checks c) {
        c.sentence("Otherwise they can't be merged, and there is NO part");
        c.partsDue("a>b{f0:e,g0:c>d{f0:e}}", 3, 3, 0, 0);
        // none of one branch, none of the whole, be it a message of one's own or of others
        c.partsDue("c>a{f0:a>b{f0:e,g0:c>d{f0:e}}}", 4, 3, 0, 0);
        c.partsDue("a>c{f0:e,g0:a>b{f0:e,g0:c>d{f0:e}}}", 5, 0, 0, 0);
        c.partsDue("a>b{f0:a>b{f0:e,g0:c>d{f0:e}},g0:e}", 5, 5, 0, 0);
        c.partsDue("a>b{f0:e,g0:a>b{f0:e,g0:c>d{f0:e}}}", 5, 5, 0, 0);
    }
}
