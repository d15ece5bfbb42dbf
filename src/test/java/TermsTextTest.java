/** Terms: the letters of roles, labels, sorts and variables; the text and the place at which it is at fault. */
public final class TermsTextTest {
    private static final String GLOBAL = "mX.a>b{f0:X,g1:mY.c>d{k2:Y,h0:X}}";
    // Of each place what can stand there.
    private static final String[] GLOBAL_CAN_STAND = {"abcdem", "XYZ", ".", "abcdem", ">", "bcd", "{", "fghijk", "012",
        ":", "abcdemX", ",}", "ghijk", "012", ":", "abcdemX", "XYZ", ".", "abcdemX", ">", "abd", "{", "fghijk", "012",
        ":", "abcdemXY", ",}", "fghij", "012", ":", "abcdemXY", ",}", ",}", ""};
    private static final String LOCAL = "mX.b!{f0:X,g1:mY.c?{k2:Y,h0:X}}";
    private static final String[] LOCAL_CAN_STAND = {"abcdem", "XYZ", ".", "abcdem", "!?", "{", "fghijk", "012",
        ":", "abcdemX", ",}", "ghijk", "012", ":", "abcdemX", "XYZ", ".", "abcdemX", "!?", "{", "fghijk", "012",
        ":", "abcdemXY", ",}", "fghij", "012", ":", "abcdemXY", ",}", ",}", ""};

    public static void main(String[] args) {
        Checks c = new Checks("terms, the text");
        roles(c);
        labels(c);
        sorts(c);
        variables(c);
        atMostHundred(c);
        placesCountFromNought(c);
        theFirstOneFromTheLeft(c);
        everyCharacterAtEveryPlace(c);
        moreMustFollow(c);
        moreMustFollowBehindAFullText(c);
        c.finish();
    }

    private static void roles(Checks c) {
        c.sentence("ROLES are 0 .. 3, written a .. d");
        for (int p = 0; p < 4; p++) {
            for (int q = 0; q < 4; q++) {
                String text = "" + (char) ('a' + p) + ">" + (char) ('a' + q) + "{f0:e}";
                if (p == q) {
                    continue;
                }
                RoleSessions x = Checks.withProtocol(text);
                c.due("the sender's partner in " + text, x.state(p, 0, 1), q);
                c.due("the receiver's partner in " + text, x.state(q, 0, 1), p);
                c.due("the sender's kind in " + text, x.state(p, 0, 0), 1);
                c.due("the receiver's kind in " + text, x.state(q, 0, 0), 2);
            }
        }
        for (char beside : new char[] {'`', 'e', 'A', 'D'}) {
            c.protocolDue("a>" + beside + "{f0:e}", -102);
        }
        c.protocolDue("`>b{f0:e}", -100);
        c.protocolDue("e>b{f0:e}", -101);
    }

    private static void labels(Checks c) {
        c.sentence("A LABEL is one of the letters f .. k");
        for (int k = 0; k < 6; k++) {
            RoleSessions x = Checks.withProtocol("a>b{" + (char) ('f' + k) + "0:e}");
            c.due("the label", x.label(0, 0, 0, 0), k);
        }
        for (char beside : new char[] {'e', 'l', 'F', 'K'}) {
            c.protocolDue("a>b{" + beside + "0:e}", -104);
        }
    }

    private static void sorts(Checks c) {
        c.sentence("a SORT of what is sent one of the digits 0 .. 2");
        for (int k = 0; k < 3; k++) {
            c.due("the sort", Checks.withProtocol("a>b{f" + k + ":e}").label(0, 0, 0, 1), k);
        }
        c.protocolDue("a>b{f/:e}", -105);
        c.protocolDue("a>b{f3:e}", -105);
    }

    private static void variables(Checks c) {
        c.sentence("VARIABLES are X, Y, Z");
        for (char variable = 'X'; variable <= 'Z'; variable++) {
            c.protocolDue("m" + variable + ".a>b{f0:" + variable + "}", 3);
        }
        for (char beside : new char[] {'W', '[', 'x', 'z'}) {
            c.protocolDue("m" + beside + ".e", -101);
            c.protocolDue("mX.a>b{f0:" + beside + "}", -110);
        }
    }

    private static void atMostHundred(Checks c) {
        c.sentence("TEXT is a row of at most 100 characters that is typed");
        String whole = fullText();
        RoleSessions x = new RoleSessions();
        for (int k = 0; k < 100; k++) {
            c.due("type " + k, x.type(whole.charAt(k)), k + 1);
        }
        c.due("type of one more", x.type('}'), RoleSessions.BAD);
        c.due("protocol() of the 100", x.protocol(), 19);
        c.machineDue(x, 0, "b!f0>1,g0>2,h0>3,i0>4,j0>5,k0>6 . . . . . b!f0>7,g0>8,h0>9,i0>10,j0>11,k0>12 . . . . ."
                + " b!f0>13,g0>14,h0>15,i0>16,j0>17,k0>18 . . . . . .");
    }

    /** 100 characters, 19 types. */
    private static String fullText() {
        String five = "a>b{f0:e,g0:e,h0:e,i0:e,j0:e,k0:";
        return five + five + five + "e}}}";
    }

    private static void placesCountFromNought(Checks c) {
        c.sentence("places in it count from 0");
        c.protocolDue("?", -100);
        c.protocolDue("e?", -101);
        c.protocolDue(fullText().substring(0, 99) + "?", -199);
        c.processDue("e", 0, "?", -100);
        c.processDue("e", 0, "e?", -101);
        c.processDue("e", 0, "b!{f0:".repeat(16) + "e}}?", -199);
    }

    private static void theFirstOneFromTheLeft(Checks c) {
        c.sentence("AT FAULT at the place of the first character that can't stand there, gone through from the left");
        c.protocolDue("a>a{f9:X}}", -102);
        c.protocolDue("a>b{f9:X}}", -105);
        c.protocolDue("a>b{f0:X}}", -107);
        c.protocolDue("a>b{f0:e}}", -109);
        c.protocolDue("mX.X?", -103);
        c.protocolDue("a>b{f0:e,f0:q", -109);
        c.processDue("e", 0, "b!{f9:X}}", -104);
        c.processDue("e", 0, "b!{f0:X}}", -106);
        c.processDue("e", 0, "b!{f0:e}}", -108);
        // the text is at fault before anything of the part is asked
        c.processDue("a>b{f0:e}", 0, "c?{f0:e}}", -108);
    }

    private static void everyCharacterAtEveryPlace(Checks c) {
        c.sentence("the first character that can't stand there");
        for (int place = 0; place <= GLOBAL.length(); place++) {
            for (int one = 0; one < 400; one++) {
                globalDue(c, place, (char) one);
            }
            globalDue(c, place, (char) 65535);
        }
        for (int place = 0; place <= LOCAL.length(); place++) {
            for (int one = 0; one < 400; one++) {
                localDue(c, place, (char) one);
            }
            localDue(c, place, (char) 65535);
        }
    }

    private static void globalDue(Checks c, int place, char one) {
        String text = GLOBAL.substring(0, place) + one;
        int types = text.equals("e") ? 1 : text.equals("mX.e") ? 2
                : text.equals("mX.a>b{f0:X}") ? 3 : text.equals(GLOBAL) ? 7 : 0;
        boolean stands = GLOBAL_CAN_STAND[place].indexOf(one) >= 0;
        c.protocolDue(text, types > 0 ? types : -100 - place - (stands ? 1 : 0));
    }

    private static void localDue(Checks c, int place, char one) {
        String text = LOCAL.substring(0, place) + one;
        boolean stands = LOCAL_CAN_STAND[place].indexOf(one) >= 0;
        int want = text.equals("e") || text.equals("mX.e") ? 1
                : text.equals("mX.b!{f0:X}") || text.equals(LOCAL) ? RoleSessions.REFUSED : -100 - place - (stands ? 1 : 0);
        c.processDue("e", 0, text, want);
    }

    private static void moreMustFollow(Checks c) {
        c.sentence("or at its length if more must follow");
        c.protocolDue("", -100);
        c.processDue("e", 0, "", -100);
        for (int length = 0; length < GLOBAL.length(); length++) {
            c.protocolDue(GLOBAL.substring(0, length), -100 - length);
        }
        for (int length = 0; length < LOCAL.length(); length++) {
            c.processDue("e", 0, LOCAL.substring(0, length), -100 - length);
        }
        for (int length = 0; length < 100; length++) {
            c.protocolDue(fullText().substring(0, length), -100 - length);
        }
    }

    private static void moreMustFollowBehindAFullText(Checks c) {
        c.sentence("at its length if more must follow, of a full text");
        c.protocolDue("a>b{f0:".repeat(14) + "a>", -200);
        c.protocolDue("a>b{f0:".repeat(14) + "aa", -199);
        c.protocolDue(fullText().substring(0, 96) + "a>b{", -200);
        // what is typed behind the 100 is not there
        c.protocolDue("a>b{f0:".repeat(12) + "e" + "}".repeat(13), -197);
        c.protocolDue("mX.a>b{f0:" + "a>b{f0:".repeat(12) + "e" + "}".repeat(13), -200);
        c.processDue("e", 0, "b!{f0:".repeat(16) + "b!{f", -200);
        c.processDue("e", 0, "b!{f0:".repeat(16) + "b!{e", -199);
    }
}
