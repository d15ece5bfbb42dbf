import java.util.LinkedHashMap;
import java.util.Map;

/** "An object is used for at most 512 calls after it has been made": the 512th still answers as the document says. */
public final class LastCallTest {
    private static final int CALLS = 512;
    private static final String ASKING = "mX.a>b{f0:b>a{g0:X},h1:e}";

    private interface Call {
        int on(RoleSessions x);
    }

    public static void main(String[] args) {
        Checks c = new Checks("the last call");
        c.sentence("An object is used for at most 512 calls after it has been made");
        ofEachKind(c);
        lettersAllTheWay(c);
        faultsAllTheWay(c);
        textsAllTheWay(c);
        beginningsAllTheWay(c);
        c.finish();
    }

    private static void ofEachKind(Checks c) {
        Map<String, Call> calls = new LinkedHashMap<>();
        Map<String, Integer> due = new LinkedHashMap<>();
        add(calls, due, "type('e')", x -> x.type('e'), 4);
        add(calls, due, "protocol()", RoleSessions::protocol, -103);
        add(calls, due, "part(0)", x -> x.part(0), 3);
        add(calls, due, "process(0)", x -> x.process(0), -103);
        add(calls, due, "state(1, 1, 0)", x -> x.state(1, 1, 0), 1);
        add(calls, due, "label(0, 0, 1, 1)", x -> x.label(0, 0, 1, 1), 1);
        add(calls, due, "begin()", x -> x.begin() ? 1 : 0, 1);
        add(calls, due, "send(0, 2)", x -> x.send(0, 2), 2);
        add(calls, due, "receive(1)", x -> x.receive(1), RoleSessions.WAIT);
        add(calls, due, "estrange(0)", x -> x.estrange(0) ? 1 : 0, 1);
        add(calls, due, "say(3, 0, 0, 0)", x -> x.say(3, 0, 0, 0), RoleSessions.REFUSED);
        add(calls, due, "take(3, 0)", x -> x.take(3, 0), RoleSessions.REFUSED);
        add(calls, due, "at(3, 2)", x -> x.at(3, 2), 1);
        add(calls, due, "queue(0, 1)", x -> x.queue(0, 1), 0);
        add(calls, due, "ready()", RoleSessions::ready, 1);
        add(calls, due, "size(1)", x -> x.size(1), 5);
        for (String call : calls.keySet()) {
            c.due(call, calls.get(call).on(used()), due.get(call));
        }
    }

    private static void add(Map<String, Call> calls, Map<String, Integer> due, String name, Call call, int want) {
        calls.put(name, call);
        due.put(name, want);
    }

    /** In a session where d is strange, with a text that isn't whole, after 511 calls. */
    private static RoleSessions used() {
        RoleSessions x = Checks.inSession(ASKING);
        int calls = ASKING.length() + 2;
        x.estrange(3);
        Checks.typed(x, "mX.");
        for (calls += 4; calls < CALLS - 1; calls++) {
            x.size(calls % 4);
        }
        return x;
    }

    private static void lettersAllTheWay(Checks c) {
        String text = "mX.a>b{f0:X}";
        RoleSessions x = Checks.inSession(text);
        int letters = 0;
        for (int calls = text.length() + 2; calls + 2 < CALLS; calls += 2) {
            c.due("send " + letters, x.send(0, 0), 0);
            c.due("receive " + letters, x.receive(1), 0);
            letters++;
        }
        c.due("letters sent", x.size(3), letters);
        c.due("there are many", letters, 248);
    }

    private static void faultsAllTheWay(Checks c) {
        RoleSessions x = Checks.inSession("e");
        x.estrange(2);
        for (int calls = 4; calls + 1 < CALLS; calls++) {
            c.due("say", x.say(2, 1, 0, 0), RoleSessions.REFUSED);
        }
        c.due("faults", x.at(2, 1), CALLS - 5);
    }

    private static void textsAllTheWay(Checks c) {
        RoleSessions x = new RoleSessions();
        for (int calls = 0; calls + 4 <= CALLS; calls += 4) {
            c.due("type", x.type('e'), 1);
            c.due("protocol()", x.protocol(), 1);
            c.due("type", x.type('e'), 1);
            c.due("process(0)", x.process(0), 1);
        }
    }

    private static void beginningsAllTheWay(Checks c) {
        RoleSessions x = Checks.withProtocol("a>b{f0:e}");
        for (int calls = 10; calls + 2 <= CALLS; calls += 2) {
            c.due("begin()", x.begin(), true);
            c.due("send(0, 0)", x.send(0, 0), 1);
        }
    }
}
