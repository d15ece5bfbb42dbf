public final class Promise02TypeTest {
    public static void main(String[] args) {
        Checks c = new Checks("promise 2, type");
        anyCharacterCounts(c);
        hundredAreRoomEnough(c);
        aFullTextKeepsWhatItHas(c);
        c.finish();
    }

    private static void anyCharacterCounts(Checks c) {
        RoleSessions x = new RoleSessions();
        char[] typed = {'e', ' ', '\n', (char) 0, (char) 255, (char) 65535, 'e'};
        for (int k = 0; k < typed.length; k++) {
            c.due("type of character " + (int) typed[k], x.type(typed[k]), k + 1);
        }
        c.due("protocol()", x.protocol(), -101);
        c.due("type behind an emptied text", x.type('e'), 1);
    }

    private static void hundredAreRoomEnough(Checks c) {
        RoleSessions x = new RoleSessions();
        String text = "mX." + "a>b{f0:".repeat(12) + "e" + "}".repeat(12);
        for (int k = 0; k < 100; k++) {
            c.due("type " + k, x.type(text.charAt(k)), k + 1);
        }
        c.due("type of the 101st", x.type('e'), RoleSessions.BAD);
        c.due("type of the 102nd", x.type('}'), RoleSessions.BAD);
        c.due("size(0)", x.size(0), 100);
        c.due("protocol() of 100 characters", x.protocol(), 14);
        c.due("size(0)", x.size(0), 0);
    }

    private static void aFullTextKeepsWhatItHas(Checks c) {
        RoleSessions x = new RoleSessions();
        for (int k = 0; k < 110; k++) {
            c.due("type " + k, x.type('a'), k < 100 ? k + 1 : RoleSessions.BAD);
        }
        c.due("protocol()", x.protocol(), -101);
    }
}
