/** Terms: strange roles, the monitor and faults. */
public final class TermsStrangeTest {
    private static final int REFUSED = RoleSessions.REFUSED;
    private static final String ASKING = "mX.a>b{f0:b>a{g0:X},h1:e}";

    public static void main(String[] args) {
        Checks c = new Checks("terms, strange roles");
        itsMachineDoesNotAct(c);
        theMonitorFollows(c);
        everythingThatCanBeSaid(c);
        everythingThatCanBeTaken(c);
        anotherSort(c);
        aFaultCounts(c);
        nothingElseIsDone(c);
        faultsOfEachRole(c);
        c.finish();
    }

    private static RoleSessions strange(String text, int... roles) {
        RoleSessions x = Checks.inSession(text);
        for (int r : roles) {
            x.estrange(r);
        }
        return x;
    }

    private static void itsMachineDoesNotAct(Checks c) {
        c.sentence("it has no machine of its own any more that acts");
        RoleSessions x = strange(ASKING, 0, 1);
        c.due("send(0, 0)", x.send(0, 0), REFUSED);
        c.due("say(0, 1, 0, 0)", x.say(0, 1, 0, 0), 1);
        c.due("receive(1)", x.receive(1), REFUSED);
        c.due("faults of a", x.at(0, 1), 0);
        c.due("faults of b", x.at(1, 1), 0);
        c.due("take(1, 0)", x.take(1, 0), 1);
    }

    private static void theMonitorFollows(Checks c) {
        c.sentence("THE MONITOR follows the machine that it would have");
        RoleSessions x = Checks.inSession(ASKING);
        x.send(0, 0);
        x.estrange(0);
        x.estrange(1);
        c.due("at(0, 0) goes on from where it was", x.at(0, 0), 1);
        c.due("take(1, 0)", x.take(1, 0), 1);
        c.due("say(1, 0, 1, 0)", x.say(1, 0, 1, 0), 0);
        c.due("take(0, 1)", x.take(0, 1), 0);
        c.due("say(0, 1, 2, 1)", x.say(0, 1, 2, 1), 2);
        c.due("take(1, 0)", x.take(1, 0), 2);
        c.due("no faults", x.at(0, 1) + x.at(1, 1), 0);
        ofItsProcess(c);
    }

    private static void ofItsProcess(Checks c) {
        c.sentence("the machine that it would have: that of its process");
        RoleSessions x = Checks.withProtocol("a>b{f0:e,g0:e}");
        c.processDue(x, 0, "b!{g0:e}", 2);
        c.processDue(x, 1, "a?{k0:e,g0:e,f0:e}", 4);
        x.begin();
        x.estrange(0);
        x.estrange(1);
        c.due("say what the part has alone", x.say(0, 1, 0, 0), REFUSED);
        c.due("say what the process has", x.say(0, 1, 1, 0), 1);
        c.due("take by the process", x.take(1, 0), 2);
        c.due("at(0, 1)", x.at(0, 1), 1);
    }

    private static void everythingThatCanBeSaid(Checks c) {
        c.sentence("What it says is let through if that machine's state could send it; anything else is a FAULT");
        for (int q = 1; q < 4; q++) {
            for (int label = 0; label < 6; label++) {
                for (int sort = 0; sort < 3; sort++) {
                    boolean could = q == 2 && (label == 1 && sort == 2 || label == 4 && sort == 0);
                    RoleSessions x = strange("a>c{g2:e,j0:e}", 0);
                    String call = "say(0, " + q + ", " + label + ", " + sort + ")";
                    c.due(call, x.say(0, q, label, sort), !could ? REFUSED : label == 1 ? 1 : 2);
                    c.due("faults behind " + call, x.at(0, 1), could ? 0 : 1);
                    c.due("letters behind " + call, x.size(3), could ? 1 : 0);
                    c.due("queue behind " + call, x.queue(0, q), could ? 1 : 0);
                }
            }
        }
        c.due("say where it receives", strange(ASKING, 1).say(1, 0, 0, 0), REFUSED);
        c.due("say at an end", strange(ASKING, 2).say(2, 0, 0, 0), REFUSED);
    }

    private static void everythingThatCanBeTaken(Checks c) {
        c.sentence("what it takes, likewise");
        for (int p = 0; p < 3; p++) {
            RoleSessions x = strange("a>d{f0:b>d{f0:c>d{f0:e}}}", 3);
            x.send(0, 0);
            x.send(1, 0);
            x.send(2, 0);
            c.due("take(3, " + p + ")", x.take(3, p), p == 0 ? 1 : REFUSED);
            c.due("faults", x.at(3, 1), p == 0 ? 0 : 1);
            c.due("queue(" + p + ", 3)", x.queue(p, 3), p == 0 ? 0 : 1);
        }
        c.due("take where it sends", strange(ASKING, 0).take(0, 1), REFUSED);
        c.due("take at an end", strange(ASKING, 2).take(2, 0), REFUSED);
    }

    private static void anotherSort(Checks c) {
        c.sentence("(also a letter of another sort)");
        RoleSessions x = strange("a>b{f1:e}", 0);
        c.due("say of sort 0", x.say(0, 1, 0, 0), REFUSED);
        c.due("say of sort 2", x.say(0, 1, 0, 2), REFUSED);
        c.due("faults", x.at(0, 1), 2);
        c.due("say of sort 1", x.say(0, 1, 0, 1), 1);
        c.due("faults", x.at(0, 1), 2);
    }

    private static void aFaultCounts(Checks c) {
        c.sentence("a FAULT of that role, which counts");
        RoleSessions x = strange("a>b{f0:e}", 0);
        for (int k = 1; k <= 200; k++) {
            c.due("say " + k, x.say(0, 1, 1, 0), REFUSED);
            c.due("faults", x.at(0, 1), k);
        }
        for (int k = 1; k <= 20; k++) {
            c.due("take " + k, x.take(0, 1), REFUSED);
            c.due("faults", x.at(0, 1), 200 + k);
        }
    }

    private static void nothingElseIsDone(Checks c) {
        c.sentence("and nothing else of it is done");
        int[][] said = {{1, 1, 0}, {1, 0, 1}, {2, 0, 0}, {3, 0, 0}};
        for (int[] letter : said) {
            RoleSessions x = strange(ASKING, 0);
            String before = Checks.lookAtAll(x);
            x.say(0, letter[0], letter[1], letter[2]);
            c.due("all else behind a fault", Checks.lookAtAll(x), before.replace(" at 0 0 1", " at 0 1 1"));
            c.due("what could be said can be said", x.say(0, 1, 0, 0), 1);
        }
        for (int p = 1; p < 4; p++) {
            RoleSessions x = Checks.inSession("a>b{f0:b>c{f0:b>a{f0:c>a{g0:e}}}}");
            x.send(0, 0);
            x.receive(1);
            x.send(1, 0);
            x.send(1, 0);
            x.receive(2);
            x.send(2, 1);
            x.estrange(0);
            String before = Checks.lookAtAll(x);
            c.due("take(0, " + p + ")", x.take(0, p), p == 1 ? 2 : REFUSED);
            if (p != 1) {
                c.due("all else behind a fault", Checks.lookAtAll(x), before.replace(" at 1 0 1", " at 1 1 1"));
            }
        }
    }

    private static void faultsOfEachRole(Checks c) {
        c.sentence("a FAULT of that role");
        RoleSessions x = strange("e", 0, 1, 2, 3);
        for (int r = 0; r < 4; r++) {
            for (int k = 0; k <= r; k++) {
                c.due("say at an end", x.say(r, (r + 1) % 4, 0, 0), REFUSED);
                c.due("take at an end", x.take(r, (r + 1) % 4), REFUSED);
            }
        }
        for (int r = 0; r < 4; r++) {
            c.due("at(" + r + ", 1)", x.at(r, 1), 2 * r + 2);
        }
    }
}
