import java.util.ArrayList;
import java.util.List;

/** Compares answers with the ones that are due; a test ends with finish(). */
final class Checks {
    private final String test;
    private final List<String> wrong = new ArrayList<>();
    private int count;

    Checks(String test) {
        this.test = test;
    }

    void due(String call, int got, int want) {
        count++;
        if (got != want) {
            wrong.add(call + " answered " + got + ", due is " + want);
        }
    }

    void due(String call, boolean got, boolean want) {
        due(call, got ? 1 : 0, want ? 1 : 0);
    }

    /** Reads the text as a global type on a new object. */
    void protocolDue(String text, int want) {
        due("protocol() of " + text, typed(new RoleSessions(), text).protocol(), want);
    }

    /** Reads the text as a process of role r. */
    void processDue(RoleSessions x, int r, String text, int want) {
        due("process(" + r + ") of " + text, typed(x, text).process(r), want);
    }

    /** Compares the machine that role r has, written as by machine(), with the one that is due. */
    void machineDue(RoleSessions x, int r, String want) {
        count++;
        String got = machine(x, r);
        if (!got.equals(want)) {
            wrong.add("the machine of role " + r + " is " + got + ", due is " + want);
        }
    }

    void finish() {
        for (String line : wrong) {
            System.out.println(test + ": " + line);
        }
        System.out.println(test + ": " + count + " answers, " + wrong.size() + " wrong");
        if (!wrong.isEmpty()) {
            System.exit(1);
        }
    }

    static RoleSessions typed(RoleSessions x, String text) {
        for (int k = 0; k < text.length(); k++) {
            x.type(text.charAt(k));
        }
        return x;
    }

    static RoleSessions withProtocol(String text) {
        RoleSessions x = typed(new RoleSessions(), text);
        int answer = x.protocol();
        if (answer < 0) {
            throw new IllegalStateException(text + " is at fault: " + answer);
        }
        return x;
    }

    static RoleSessions inSession(String text) {
        RoleSessions x = withProtocol(text);
        if (!x.begin()) {
            throw new IllegalStateException(text + " begins no session");
        }
        return x;
    }

    /** All states as state() and label() tell them, such as "b!f0>1,h1>1 .": '.' is an end. */
    static String machine(RoleSessions x, int r) {
        StringBuilder all = new StringBuilder();
        for (int s = 0; x.state(r, s, 0) != RoleSessions.BAD; s++) {
            all.append(s == 0 ? "" : " ").append(state(x, r, s));
        }
        return all.toString();
    }

    private static String state(RoleSessions x, int r, int s) {
        if (x.state(r, s, 0) == 0) {
            return ".";
        }
        StringBuilder one = new StringBuilder();
        one.append((char) ('a' + x.state(r, s, 1))).append(x.state(r, s, 0) == 1 ? '!' : '?');
        for (int k = 0; k < x.state(r, s, 2); k++) {
            one.append(k == 0 ? "" : ",").append((char) ('f' + x.label(r, s, k, 0)));
            one.append(x.label(r, s, k, 1)).append('>').append(x.label(r, s, k, 2));
        }
        return one.toString();
    }
}
