public final class Promise02TypeTest {
    private static final int BAD = RoleSessions.BAD;

    public static void main(String[] args) {
        Checks c = new Checks("promise 2, type");
        behindTheText(c);
        anyCharacter(c);
        onlyTheCharacterItself(c);
        howManyItHasThen(c);
        badAtHundred(c);
        c.finish();
    }

    private static void behindTheText(Checks c) {
        c.sentence("Types a character behind the text");
        RoleSessions x = new RoleSessions();
        c.due("protocol()", Checks.typed(x, "a>b{f0:e}").protocol(), 2);
        c.due("protocol() the other way round", Checks.typed(x, "}e:0f{b>a").protocol(), -100);
        // in between other calls are made
        x.type('m');
        x.begin();
        x.type('X');
        x.send(0, 0);
        x.type('.');
        x.size(0);
        x.type('e');
        c.due("protocol()", x.protocol(), 2);
    }

    private static void anyCharacter(Checks c) {
        c.sentence("int type(char c): any character");
        RoleSessions x = new RoleSessions();
        char[] typed = {'e', ' ', '\n', (char) 0, (char) 255, (char) 256, (char) 65535, 'e'};
        for (int k = 0; k < typed.length; k++) {
            c.due("type of character " + (int) typed[k], x.type(typed[k]), k + 1);
        }
        c.due("protocol()", x.protocol(), -101);
        c.due("type behind an emptied text", x.type('e'), 1);
    }

    private static void onlyTheCharacterItself(Checks c) {
        c.sentence("a character far above is not one of the letters");
        for (int above = 128; above < 65536; above *= 2) {
            RoleSessions x = new RoleSessions();
            x.type((char) ('e' + above));
            c.due("protocol() of e and " + above, x.protocol(), -100);
            x = Checks.typed(new RoleSessions(), "a>");
            x.type((char) ('b' + above));
            c.due("protocol() of b and " + above, x.protocol(), -102);
        }
    }

    private static void howManyItHasThen(Checks c) {
        c.sentence("How many it has then");
        RoleSessions x = new RoleSessions();
        for (int k = 1; k <= 100; k++) {
            c.due("type " + k, x.type('a'), k);
            c.due("size(0)", x.size(0), k);
        }
    }

    private static void badAtHundred(Checks c) {
        c.sentence("BAD when it has 100");
        RoleSessions x = new RoleSessions();
        String text = "mX." + "a>b{f0:".repeat(12) + "e" + "}".repeat(12);
        for (int k = 0; k < 99; k++) {
            x.type(text.charAt(k));
        }
        c.due("type of the 100th", x.type(text.charAt(99)), 100);
        c.due("type of the 101st", x.type('e'), BAD);
        c.due("type of the 102nd", x.type('}'), BAD);
        c.due("size(0)", x.size(0), 100);
        c.due("protocol() of 100 characters", x.protocol(), 14);
        c.due("size(0)", x.size(0), 0);
        c.due("type behind an emptied text", x.type('e'), 1);
    }
}
