/** Terms: a session with its states and queues. */
public final class TermsSessionTest {
    private static final int WAIT = RoleSessions.WAIT;
    // Role b's state tells which label it has taken last: state k for the k-th.
    private static final String TELLING = "mX.a>b{f0:a>b{f0:X},g1:a>b{f0:X},h2:a>b{f0:X},i0:a>b{f0:X}}";

    public static void main(String[] args) {
        Checks c = new Checks("terms, sessions");
        atFirstInStateNought(c);
        processOrPart(c);
        queuesAreEmptyAtFirst(c);
        eachTwoHaveAQueue(c);
        atMostFourLetters(c);
        toTheEndOfTheQueue(c);
        theFirstLetterIsTaken(c);
        roundAndRound(c);
        itsStateIsWhatTheLabelLeadsTo(c);
        c.finish();
    }

    private static String message(int p, int q) {
        return "" + (char) ('a' + p) + ">" + (char) ('a' + q);
    }

    private static void atFirstInStateNought(Checks c) {
        c.sentence("Every role has a machine, at first in state 0");
        RoleSessions x = Checks.inSession("a>b{f0:b>c{f0:c>d{f0:e}}}");
        for (int r = 0; r < 4; r++) {
            c.due("at(" + r + ", 0)", x.at(r, 0), 0);
        }
    }

    private static void processOrPart(Checks c) {
        c.sentence("that of its process, or, if it has none, that of its part");
        RoleSessions x = Checks.withProtocol("a>b{f0:e,g0:e}");
        c.processDue(x, 0, "b!{g0:e}", 2);
        x.begin();
        c.due("send of what the process hasn't", x.send(0, 0), RoleSessions.REFUSED);
        c.due("send of what it has", x.send(0, 1), 1);
        c.due("receive by the part", x.receive(1), 2);
        // the state's number is that of the process
        c.processDue(x, 1, "a?{k0:e,g0:e,f0:e}", 4);
        x.begin();
        x.send(0, 1);
        c.due("receive by the process", x.receive(1), 2);
    }

    private static void queuesAreEmptyAtFirst(Checks c) {
        c.sentence("a QUEUE, at first empty");
        for (int p = 0; p < 4; p++) {
            for (int q = 0; q < 4; q++) {
                if (p != q) {
                    RoleSessions x = Checks.inSession(message(p, q) + "{f0:e}");
                    c.due("queue(" + p + ", " + q + ")", x.queue(p, q), 0);
                    c.due("receive of " + q, x.receive(q), WAIT);
                }
            }
        }
    }

    private static void eachTwoHaveAQueue(Checks c) {
        c.sentence("For each role and each other one there is a QUEUE");
        for (int p = 0; p < 4; p++) {
            for (int q = 0; q < 4; q++) {
                if (p != q) {
                    RoleSessions x = Checks.inSession("mX." + message(p, q) + "{f0:X}");
                    x.send(p, 0);
                    x.send(p, 0);
                    oneQueueAloneHas(c, x, p, q, 2);
                    x.receive(q);
                    oneQueueAloneHas(c, x, p, q, 1);
                }
            }
        }
    }

    private static void oneQueueAloneHas(Checks c, RoleSessions x, int p, int q, int want) {
        for (int from = 0; from < 4; from++) {
            for (int to = 0; to < 4; to++) {
                if (from != to) {
                    c.due("queue(" + from + ", " + to + ") where " + p + " sent to " + q, x.queue(from, to),
                            from == p && to == q ? want : 0);
                }
            }
        }
    }

    private static void atMostFourLetters(Checks c) {
        c.sentence("of at most four letters");
        for (int p = 0; p < 4; p++) {
            for (int q = 0; q < 4; q++) {
                if (p != q) {
                    RoleSessions x = Checks.inSession("mX." + message(p, q) + "{f0:X}");
                    for (int k = 1; k <= 4; k++) {
                        c.due("send " + k + " of " + p + " to " + q, x.send(p, 0), 0);
                        c.due("queue", x.queue(p, q), k);
                    }
                    c.due("a fifth of " + p + " to " + q, x.send(p, 0), WAIT);
                    c.due("queue", x.queue(p, q), 4);
                    c.due("receive", x.receive(q), 0);
                    c.due("a fifth behind one that is taken", x.send(p, 0), 0);
                    c.due("a sixth", x.send(p, 0), WAIT);
                }
            }
        }
    }

    private static void toTheEndOfTheQueue(Checks c) {
        c.sentence("the letter is put to the end of the queue to its partner");
        RoleSessions x = Checks.inSession(TELLING);
        c.due("send(0, 3)", x.send(0, 3), 4);
        c.due("send(0, 0)", x.send(0, 0), 0);
        c.due("send(0, 1)", x.send(0, 1), 2);
        c.due("send(0, 0)", x.send(0, 0), 0);
        c.due("the first one", x.receive(1), 4);
        c.due("the second one", x.receive(1), 0);
        c.due("send(0, 2)", x.send(0, 2), 3);
        c.due("the third one", x.receive(1), 2);
        c.due("the fourth one", x.receive(1), 0);
        c.due("the fifth one", x.receive(1), 3);
        c.due("no more", x.receive(1), WAIT);
    }

    private static void theFirstLetterIsTaken(Checks c) {
        c.sentence("the first letter of the queue from its partner is taken");
        RoleSessions x = Checks.inSession("a>c{f0:b>c{g0:a>c{h0:e}}}");
        c.due("send(1, 1)", x.send(1, 1), 1);
        c.due("receive where another one has sent", x.receive(2), WAIT);
        c.due("send(0, 0)", x.send(0, 0), 1);
        c.due("send(0, 2)", x.send(0, 2), 2);
        c.due("receive(2)", x.receive(2), 1);
        c.due("queue(0, 2)", x.queue(0, 2), 1);
        c.due("queue(1, 2)", x.queue(1, 2), 1);
        c.due("receive(2)", x.receive(2), 2);
        c.due("queue(0, 2)", x.queue(0, 2), 1);
        c.due("queue(1, 2)", x.queue(1, 2), 0);
        c.due("receive(2)", x.receive(2), 3);
    }

    private static void roundAndRound(Checks c) {
        c.sentence("letters come out as they went in, however often the queue was filled and emptied");
        // f leads to state 0, g to state 1, so that the states tell the letters
        RoleSessions x = Checks.inSession("mX.a>b{f0:X,g0:mY.a>b{f0:X,g0:Y}}");
        int[] letters = new int[500];
        int in = 0;
        int out = 0;
        int seed = 12345;
        for (int calls = 0; calls < 400; calls++) {
            seed = seed * 1103515245 + 12345;
            int label = (seed >>> 16) & 1;
            if (((seed >>> 20) & 3) < 2) {
                boolean room = in - out < 4;
                c.due("send " + in, x.send(0, label), room ? label : WAIT);
                letters[in] = label;
                in += room ? 1 : 0;
            } else {
                c.due("receive " + out, x.receive(1), in > out ? letters[out] : WAIT);
                out += in > out ? 1 : 0;
            }
        }
        c.due("letters sent", x.size(3), in);
        c.due("letters left", x.queue(0, 1), in - out);
        c.due("enough of them", in > 100, true);
    }

    private static void itsStateIsWhatTheLabelLeadsTo(Checks c) {
        c.sentence("and the state is what that label leads to");
        String text = "a>b{f0:e,g1:e,h2:e,i0:e,j1:e,k2:e}";
        for (int label = 0; label < 6; label++) {
            RoleSessions x = Checks.inSession(text);
            c.due("send(0, " + label + ")", x.send(0, label), label + 1);
            c.due("at(0, 0)", x.at(0, 0), label + 1);
            c.due("at(1, 0)", x.at(1, 0), 0);
            c.due("receive(1)", x.receive(1), label + 1);
            c.due("at(1, 0)", x.at(1, 0), label + 1);
        }
    }
}
