import java.util.LinkedHashMap;
import java.util.Map;

/** Terms: what protocol() and process() empty, and that refused calls change nothing. */
public final class TermsRefusedCallsTest {
    private static final int BAD = RoleSessions.BAD;
    private static final int REFUSED = RoleSessions.REFUSED;
    private static final int WAIT = RoleSessions.WAIT;
    private static final String CHAIN = "mX.a>b{f0:b>c{f0:c>d{f0:X}},g1:b>c{g0:c>d{g0:e}}}";

    /** A call; a boolean counts 1 or 0. */
    private interface Call {
        int on(RoleSessions x);
    }

    /** An object in a state of its own, made anew each time. */
    private interface Start {
        RoleSessions make();
    }

    public static void main(String[] args) {
        Checks c = new Checks("terms, refused calls");
        theTextIsEmptied(c);
        theTextStaysWithBad(c);
        aSessionGoesOn(c);
        nothingChangesInASession(c);
        nothingChangesWithAFullQueue(c);
        nothingChangesWithoutASession(c);
        nothingChangesWithoutAMachine(c);
        nothingChangesOnANewObject(c);
        nothingChangesWithAFullText(c);
        c.finish();
    }

    private static void theTextIsEmptied(Checks c) {
        c.sentence("protocol() and process() empty the text, also with a fault, or REFUSED");
        RoleSessions x = Checks.typed(new RoleSessions(), "a>b{f0:e}");
        c.due("protocol()", x.protocol(), 2);
        c.due("size(0)", x.size(0), 0);
        c.due("protocol() with a fault", Checks.typed(x, "a>b{f0:e}e").protocol(), -109);
        c.due("size(0)", x.size(0), 0);
        c.due("process(0)", Checks.typed(x, "b!{f0:e}").process(0), 2);
        c.due("size(0)", x.size(0), 0);
        c.due("process(0) with a fault", Checks.typed(x, "b!{f0:e}e").process(0), -108);
        c.due("size(0)", x.size(0), 0);
        c.due("process(0) refused", Checks.typed(x, "b!{g0:e}").process(0), REFUSED);
        c.due("size(0)", x.size(0), 0);
        // what is typed then stands alone
        c.due("type", x.type('e'), 1);
        c.due("protocol()", x.protocol(), 1);
    }

    private static void theTextStaysWithBad(Checks c) {
        c.sentence("(With BAD the text stays.)");
        RoleSessions x = Checks.typed(new RoleSessions(), "a>b{f0:e}");
        c.due("process(0) without a protocol", x.process(0), BAD);
        c.due("size(0)", x.size(0), 9);
        c.due("protocol()", x.protocol(), 2);
        Checks.typed(x, "b!{f0:e}");
        for (int r : new int[] {-1, 4, Integer.MIN_VALUE, Integer.MAX_VALUE}) {
            c.due("process(" + r + ")", x.process(r), BAD);
            c.due("size(0)", x.size(0), 8);
        }
        c.due("process(0)", x.process(0), 2);
    }

    private static void aSessionGoesOn(Checks c) {
        c.sentence("a session that is there goes on then");
        Map<String, Call> calls = new LinkedHashMap<>();
        calls.put("protocol() with a fault", x -> Checks.typed(x, "a>b{f0:e").protocol() == -108 ? 1 : 0);
        calls.put("protocol() of no text", x -> x.protocol() == -100 ? 1 : 0);
        calls.put("process(0) with a fault", x -> Checks.typed(x, "b!{f0").process(0) == -105 ? 1 : 0);
        calls.put("process(2) of no text", x -> x.process(2) == -100 ? 1 : 0);
        calls.put("process(0) refused", x -> Checks.typed(x, "b!{k0:e}").process(0) == REFUSED ? 1 : 0);
        calls.put("process(1) refused", x -> Checks.typed(x, "a?{f0:e}").process(1) == REFUSED ? 1 : 0);
        calls.put("process(3) refused", x -> Checks.typed(x, "e").process(3) == REFUSED ? 1 : 0);
        for (Map.Entry<String, Call> call : calls.entrySet()) {
            changesNothing(c, TermsRefusedCallsTest::busySession, call.getKey(), call.getValue(), 1);
        }
    }

    /** Letters are under way, c is strange and has a fault, a has a process, no text is typed. */
    private static RoleSessions busySession() {
        RoleSessions x = Checks.withProtocol(CHAIN);
        Checks.typed(x, "mX.b!{f0:X}").process(0);
        x.begin();
        x.send(0, 0);
        x.send(0, 0);
        x.receive(1);
        x.send(1, 0);
        x.estrange(2);
        x.say(2, 0, 0, 0);
        return x;
    }

    private static RoleSessions busySessionWithText() {
        return Checks.typed(busySession(), "mX.e");
    }

    private static void nothingChangesInASession(Checks c) {
        c.sentence("a call that is refused, or answers false or one of the constants, changes nothing: in a session");
        Map<String, Call> bad = new LinkedHashMap<>();
        bad.put("part(4)", x -> x.part(4));
        bad.put("process(4)", x -> x.process(4));
        bad.put("process(-1)", x -> x.process(-1));
        bad.put("state(0, 1, 0)", x -> x.state(0, 1, 0));
        bad.put("label(0, 0, 1, 0)", x -> x.label(0, 0, 1, 0));
        bad.put("send(4, 0)", x -> x.send(4, 0));
        bad.put("send(0, 6)", x -> x.send(0, 6));
        bad.put("receive(-1)", x -> x.receive(-1));
        bad.put("say(0, 1, 0, 0) of one that isn't strange", x -> x.say(0, 1, 0, 0));
        bad.put("say(0, 1, 1, 0) of one that isn't strange", x -> x.say(0, 1, 1, 0));
        bad.put("say(2, 2, 0, 0)", x -> x.say(2, 2, 0, 0));
        bad.put("say(2, 4, 0, 0)", x -> x.say(2, 4, 0, 0));
        bad.put("say(2, 3, 6, 0)", x -> x.say(2, 3, 6, 0));
        bad.put("say(2, 3, 0, 3)", x -> x.say(2, 3, 0, 3));
        bad.put("say(2, 3, -1, -1)", x -> x.say(2, 3, -1, -1));
        bad.put("take(1, 0) of one that isn't strange", x -> x.take(1, 0));
        bad.put("take(2, 2)", x -> x.take(2, 2));
        bad.put("take(2, 4)", x -> x.take(2, 4));
        bad.put("take(2, -1)", x -> x.take(2, -1));
        bad.put("at(0, 3)", x -> x.at(0, 3));
        bad.put("queue(1, 1)", x -> x.queue(1, 1));
        bad.put("size(4)", x -> x.size(4));
        for (Map.Entry<String, Call> call : bad.entrySet()) {
            changesNothing(c, TermsRefusedCallsTest::busySessionWithText, call.getKey(), call.getValue(), BAD);
        }
        Map<String, Call> refused = new LinkedHashMap<>();
        refused.put("send(0, 1), which the process hasn't", x -> x.send(0, 1));
        refused.put("send(1, 0) where it receives", x -> x.send(1, 0));
        refused.put("send(2, 0) of a strange one", x -> x.send(2, 0));
        refused.put("receive(0) where it sends", x -> x.receive(0));
        refused.put("receive(2) of a strange one", x -> x.receive(2));
        for (Map.Entry<String, Call> call : refused.entrySet()) {
            changesNothing(c, TermsRefusedCallsTest::busySessionWithText, call.getKey(), call.getValue(), REFUSED);
        }
        changesNothing(c, TermsRefusedCallsTest::busySessionWithText, "receive(3) of an empty queue",
                x -> x.receive(3), WAIT);
        changesNothing(c, TermsRefusedCallsTest::busySessionWithText, "estrange(2) again",
                x -> x.estrange(2) ? 1 : 0, 0);
        changesNothing(c, TermsRefusedCallsTest::busySessionWithText, "estrange(4)", x -> x.estrange(4) ? 1 : 0, 0);
    }

    private static void nothingChangesWithAFullQueue(Checks c) {
        c.sentence("a call that answers WAIT changes nothing");
        Start full = () -> {
            RoleSessions x = Checks.inSession("mX.a>b{f0:X,g0:mY.a>b{f0:X,g0:Y}}");
            x.send(0, 1);
            x.send(0, 0);
            x.send(0, 1);
            x.send(0, 1);
            return x;
        };
        changesNothing(c, full, "send(0, 0)", x -> x.send(0, 0), WAIT);
        changesNothing(c, full, "send(0, 1)", x -> x.send(0, 1), WAIT);
        Start fullOfAStrangeOne = () -> {
            RoleSessions x = full.make();
            x.estrange(0);
            return x;
        };
        changesNothing(c, fullOfAStrangeOne, "say(0, 1, 0, 0)", x -> x.say(0, 1, 0, 0), WAIT);
        changesNothing(c, fullOfAStrangeOne, "say(0, 1, 1, 0)", x -> x.say(0, 1, 1, 0), WAIT);
        Start waiting = () -> {
            RoleSessions x = Checks.inSession("a>b{f0:c>b{f0:e}}");
            x.send(2, 0);
            x.estrange(1);
            return x;
        };
        changesNothing(c, waiting, "take(1, 0)", x -> x.take(1, 0), WAIT);
    }

    private static void nothingChangesWithoutASession(Checks c) {
        c.sentence("a call that is refused changes nothing: without a session");
        Start start = () -> {
            RoleSessions x = Checks.withProtocol(CHAIN);
            Checks.typed(x, "mX.b!{f0:X}").process(0);
            return Checks.typed(x, "mX.e");
        };
        noSession(c, start);
        changesNothing(c, start, "process(4)", x -> x.process(4), BAD);
        changesNothing(c, start, "state(3, 2, 0)", x -> x.state(3, 2, 0), BAD);
    }

    private static void nothingChangesWithoutAMachine(Checks c) {
        c.sentence("a call that answers false changes nothing: where a role has no machine");
        Start start = () -> {
            RoleSessions x = Checks.withProtocol("a>b{f0:c>d{f0:e},g0:c>d{g0:e}}");
            Checks.typed(x, "b!{g0:e}").process(0);
            return Checks.typed(x, "mX.e");
        };
        changesNothing(c, start, "begin()", x -> x.begin() ? 1 : 0, 0);
        changesNothing(c, start, "state(2, 0, 0)", x -> x.state(2, 0, 0), BAD);
        noSession(c, start);
    }

    private static void nothingChangesOnANewObject(Checks c) {
        c.sentence("a call that is refused changes nothing: on a new object");
        Start start = () -> Checks.typed(new RoleSessions(), "mX.e");
        changesNothing(c, start, "begin()", x -> x.begin() ? 1 : 0, 0);
        changesNothing(c, start, "process(0)", x -> x.process(0), BAD);
        changesNothing(c, start, "part(0)", x -> x.part(0), BAD);
        changesNothing(c, start, "label(0, 0, 0, 0)", x -> x.label(0, 0, 0, 0), BAD);
        noSession(c, start);
    }

    private static void noSession(Checks c, Start start) {
        changesNothing(c, start, "send(0, 0)", x -> x.send(0, 0), BAD);
        changesNothing(c, start, "receive(1)", x -> x.receive(1), BAD);
        changesNothing(c, start, "estrange(0)", x -> x.estrange(0) ? 1 : 0, 0);
        changesNothing(c, start, "say(0, 1, 0, 0)", x -> x.say(0, 1, 0, 0), BAD);
        changesNothing(c, start, "take(1, 0)", x -> x.take(1, 0), BAD);
        changesNothing(c, start, "at(0, 0)", x -> x.at(0, 0), BAD);
        changesNothing(c, start, "queue(0, 1)", x -> x.queue(0, 1), BAD);
        changesNothing(c, start, "ready()", RoleSessions::ready, BAD);
    }

    private static void nothingChangesWithAFullText(Checks c) {
        c.sentence("a call that is refused changes nothing: type() with a full text");
        String five = "a>b{f0:e,g0:e,h0:e,i0:e,j0:e,k0:";
        Start start = () -> Checks.typed(new RoleSessions(), five + five + five + "e}}}");
        changesNothing(c, start, "type", x -> x.type('}'), BAD);
        changesNothing(c, start, "type", x -> x.type('e'), BAD);
    }

    /** Makes the object twice, calls on one of them, and compares what both tell and what they do from then on. */
    private static void changesNothing(Checks c, Start start, String call, Call refused, int want) {
        RoleSessions with = start.make();
        RoleSessions without = start.make();
        c.due(call, refused.on(with), want);
        c.due("size(0) behind " + call, with.size(0), without.size(0));
        c.due("all else behind " + call, Checks.lookAtAll(with), Checks.lookAtAll(without));
        c.due("what is done behind " + call, goOn(with), goOn(without));
    }

    /** Takes every letter that is under way, sends what can be sent, and reads the text. */
    private static String goOn(RoleSessions x) {
        StringBuilder answers = new StringBuilder();
        for (int round = 0; round < 3; round++) {
            for (int r = 0; r < 4; r++) {
                answers.append(' ').append(x.receive(r)).append(' ').append(x.take(r, (r + 3) % 4));
            }
        }
        for (int r = 0; r < 4; r++) {
            answers.append(' ').append(x.send(r, 0)).append(' ').append(x.say(r, (r + 1) % 4, 0, 0));
            answers.append(' ').append(x.at(r, 0)).append(' ').append(x.at(r, 1));
        }
        return answers.append(' ').append(x.size(3)).append(' ').append(x.protocol()).toString();
    }
}
