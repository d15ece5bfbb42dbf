import java.util.ArrayList;
import java.util.List;

/** Compares answers with the ones that are due, sentence by sentence; a test ends with finish(). */
final class Checks {
    private final String test;
    private final List<String> wrong = new ArrayList<>();
    private String sentence = "";
    private int sentences;
    private int countOfSentence;
    private int count;

    Checks(String test) {
        this.test = test;
    }

    /** The words of the document for which the checks from here on stand. */
    void sentence(String words) {
        endSentence();
        sentence = words;
        sentences++;
        countOfSentence = 0;
    }

    private void endSentence() {
        if (sentences > 0 && countOfSentence == 0) {
            wrong.add("\"" + sentence + "\" has no check");
        }
    }

    void due(String call, int got, int want) {
        due(call, Integer.toString(got), Integer.toString(want));
    }

    void due(String call, String got, String want) {
        count++;
        countOfSentence++;
        if (!got.equals(want)) {
            wrong.add("\"" + sentence + "\": " + call + " answered " + got + ", due is " + want);
        }
    }

    void due(String call, boolean got, boolean want) {
        due(call, got ? 1 : 0, want ? 1 : 0);
    }

    /** Reads the text as a global type on a new object. */
    void protocolDue(String text, int want) {
        due("protocol() of " + text, typed(new RoleSessions(), text).protocol(), want);
    }

    /** Reads the text as a process of role r. */
    void processDue(RoleSessions x, int r, String text, int want) {
        due("process(" + r + ") of " + text, typed(x, text).process(r), want);
    }

    /** Compares the machine that role r has, written as by machine(), with the one that is due. */
    void machineDue(RoleSessions x, int r, String want) {
        due("the machine of role " + r, machine(x, r), want);
    }

    /** Reads the text as a global type on a new object and compares the machine of one role's part. */
    void partDue(String text, int r, String want) {
        due("the part of role " + r + " in " + text, machine(withProtocol(text), r), want);
    }

    /** Reads a protocol on a new object and compares how many states the parts of the four roles have. */
    void partsDue(String text, int... want) {
        RoleSessions x = withProtocol(text);
        for (int r = 0; r < 4; r++) {
            due("part(" + r + ") of " + text, x.part(r), want[r]);
        }
    }

    /** Reads the second text as a process on a new object with the first one as its protocol. */
    void processDue(String protocol, int r, String process, int want) {
        due("with " + protocol + " process(" + r + ") of " + process,
                typed(withProtocol(protocol), process).process(r), want);
    }

    void finish() {
        endSentence();
        for (String line : wrong) {
            System.out.println(test + ": " + line);
        }
        System.out.println(test + ": " + sentences + " sentences, " + count + " answers, " + wrong.size() + " wrong");
        if (!wrong.isEmpty()) {
            System.exit(1);
        }
    }

    static RoleSessions typed(RoleSessions x, String text) {
        for (int k = 0; k < text.length(); k++) {
            x.type(text.charAt(k));
        }
        return x;
    }

    static RoleSessions withProtocol(String text) {
        RoleSessions x = typed(new RoleSessions(), text);
        int answer = x.protocol();
        if (answer < 0) {
            throw new IllegalStateException(text + " is at fault: " + answer);
        }
        return x;
    }

    static RoleSessions inSession(String text) {
        RoleSessions x = withProtocol(text);
        if (!x.begin()) {
            throw new IllegalStateException(text + " begins no session");
        }
        return x;
    }

    /** All states as state() and label() tell them, such as "b!f0>1,h1>1 .": '.' is an end. */
    static String machine(RoleSessions x, int r) {
        StringBuilder all = new StringBuilder();
        int kind = x.state(r, 0, 0);
        for (int s = 0; kind != RoleSessions.BAD; s++) {
            all.append(s == 0 ? "" : " ").append(kind == 0 ? "." : state(x, r, s, kind));
            kind = x.state(r, s + 1, 0);
        }
        return all.toString();
    }

    /** All that calls can tell of an object without changing it, but for the text. */
    static String lookAtAll(RoleSessions x) {
        StringBuilder all = new StringBuilder();
        for (int what = 1; what < 4; what++) {
            all.append("size ").append(x.size(what)).append(' ');
        }
        all.append("ready ").append(x.ready());
        for (int r = 0; r < 4; r++) {
            all.append(" role ").append(r).append(" part ").append(x.part(r)).append(" machine ").append(machine(x, r));
            all.append(" at ").append(x.at(r, 0)).append(' ').append(x.at(r, 1)).append(' ').append(x.at(r, 2));
            for (int q = 0; q < 4; q++) {
                all.append(" queue ").append(x.queue(r, q));
            }
        }
        return all.toString();
    }

    private static String state(RoleSessions x, int r, int s, int kind) {
        StringBuilder one = new StringBuilder();
        one.append((char) ('a' + x.state(r, s, 1))).append(kind == 1 ? '!' : '?');
        int labels = x.state(r, s, 2);
        for (int k = 0; k < labels; k++) {
            one.append(k == 0 ? "" : ",").append((char) ('f' + x.label(r, s, k, 0)));
            one.append(x.label(r, s, k, 1)).append('>').append(x.label(r, s, k, 2));
        }
        return one.toString();
    }
}
