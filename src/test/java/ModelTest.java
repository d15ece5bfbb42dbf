import java.util.ArrayList;
import java.util.Arrays;
import java.util.Collections;
import java.util.List;
import java.util.Random;

/** Random runs of calls, each answer held against Model; arguments: how many runs, and the first seed. */
public final class ModelTest {
    private static final String ALPHABET = "eXYZmabcd>{}:,fghijk012.!?";
    private static final int CALL_LIMIT = 512;

    // how often each kind of answer came up: a test that never gets there tests nothing
    private static int begun;
    private static int refinedProcesses;
    private static int refusedProcesses;
    private static int faultyTexts;
    private static int misfits;
    private static int partsWithoutMachine;
    private static int faultsOfStrangers;

    private final Random random;
    private final List<String> log = new ArrayList<>();
    private final RoleSessions x = new RoleSessions();
    private final Model model = new Model();
    private final String[] processTexts = new String[4];
    private String protocolText = "";
    private int calls;

    private ModelTest(long seed) {
        random = new Random(seed);
    }

    public static void main(String[] args) {
        int runs = args.length > 0 ? Integer.parseInt(args[0]) : 3000;
        long first = args.length > 1 ? Long.parseLong(args[1]) : 1;
        for (long seed = first; seed < first + runs; seed++) {
            ModelTest test = new ModelTest(seed);
            if (!test.run()) {
                System.out.println("ModelTest: seed " + seed + " differs, calls and answers:");
                test.log.forEach(System.out::println);
                System.exit(1);
            }
        }
        System.out.println("ModelTest: " + runs + " runs, 0 wrong (" + begun + " sessions, " + refinedProcesses
                + " processes, " + refusedProcesses + " refused, " + faultyTexts + " faults of texts, "
                + faultsOfStrangers + " of strangers, " + misfits + " misfits, " + partsWithoutMachine
                + " parts without a machine)");
        if (begun == 0 || refinedProcesses == 0 || refusedProcesses == 0 || faultsOfStrangers == 0) {
            System.out.println("ModelTest: the runs don't reach what they should");
            System.exit(1);
        }
    }

    private boolean run() {
        while (canCall(1)) {
            if (random.nextInt(12) > 0 && !typeProtocol()) {
                return false;
            }
            for (int k = random.nextInt(3); k > 0; k--) {
                if (!typeProcess()) {
                    return false;
                }
            }
            if (canCall(1) && random.nextInt(8) > 0 && !begin()) {
                return false;
            }
            for (int k = random.nextInt(150); k > 0 && canCall(1); k--) {
                if (!(random.nextInt(4) == 0 ? look() : act())) {
                    return false;
                }
            }
        }
        return true;
    }

    /** Nothing is promised of an object after its 512th call. */
    private boolean canCall(int times) {
        return calls + times <= CALL_LIMIT;
    }

    private boolean same(String call, int got, int want) {
        calls++;
        log.add(call + " -> " + got + (got == want ? "" : ", due is " + want));
        return got == want;
    }

    private boolean same(String call, boolean got, boolean want) {
        return same(call, got ? 1 : 0, want ? 1 : 0);
    }

    // ---- texts

    private boolean typeText(String text) {
        for (char c : text.toCharArray()) {
            if (!same("type " + c, x.type(c), model.type(c))) {
                return false;
            }
        }
        return same("size(0)", x.size(0), model.size(0));
    }

    private boolean typeProtocol() {
        String text = Model.print(globalType());
        if (random.nextInt(5) == 0) {
            text = spoiled(text);
        }
        if (!canCall(text.length() + 6)) {
            return true;
        }
        String all = model.text() + text;
        if (!typeText(text)) {
            return false;
        }
        int answer = model.protocol();
        faultyTexts += answer < 0 ? 1 : 0;
        if (answer > 0) {
            protocolText = all;
            Arrays.fill(processTexts, null);
        }
        if (!same("protocol()", x.protocol(), answer)) {
            return false;
        }
        for (int r = 0; r < 4; r++) {
            int states = model.part(r);
            partsWithoutMachine += states == 0 && model.part((char) ('a' + r)) != null ? 1 : 0;
            if (!same("part(" + r + ")", x.part(r), states) || !sameMachine(r)) {
                return false;
            }
        }
        return true;
    }

    private boolean typeProcess() {
        int r = random.nextInt(4);
        Model.T part = model.size(1) == 0 ? null : model.part((char) ('a' + r));
        Model.T process = part == null || random.nextInt(10) == 0 ? local("", "", 3) : varied(part, 4);
        String text = Model.print(process);
        if (random.nextInt(12) == 0) {
            text = spoiled(text);
        }
        int asked = random.nextInt(20) == 0 ? r + 4 : r;
        if (!canCall(text.length() + 2)) {
            return true;
        }
        String all = model.text() + text;
        if (!typeText(text)) {
            return false;
        }
        int answer = model.process(asked);
        if (answer > 0) {
            processTexts[r] = all;
        }
        refinedProcesses += answer > 0 ? 1 : 0;
        refusedProcesses += answer == -2 ? 1 : 0;
        faultyTexts += answer <= -100 ? 1 : 0;
        return same("process(" + asked + ")", x.process(asked), answer) && sameMachine(r);
    }

    /** Looks at all of a machine on an object of its own, since each look is a call. */
    private boolean sameMachine(int r) {
        RoleSessions y = new RoleSessions();
        Checks.typed(y, protocolText).protocol();
        if (processTexts[r] != null) {
            Checks.typed(y, processTexts[r]).process(r);
        }
        List<Model.State> machine = model.machine(r);
        int states = machine == null ? 0 : machine.size();
        for (int s = 0; s <= states; s++) {
            for (int what = 0; what < 3; what++) {
                if (y.state(r, s, what) != model.state(r, s, what)) {
                    log.add("state(" + r + "," + s + "," + what + ") of a new object differs");
                    return false;
                }
            }
            for (int k = 0; k <= model.state(r, s, 2); k++) {
                if (!sameLabel(y, r, s, k)) {
                    log.add("label(" + r + "," + s + "," + k + ", ..) of a new object differs");
                    return false;
                }
            }
        }
        return true;
    }

    private boolean sameLabel(RoleSessions y, int r, int s, int k) {
        for (int what = 0; what < 3; what++) {
            if (y.label(r, s, k, what) != model.label(r, s, k, what)) {
                return false;
            }
        }
        return true;
    }

    private String spoiled(String text) {
        StringBuilder all = new StringBuilder(text);
        for (int k = 1 + random.nextInt(2); k > 0; k--) {
            int place = random.nextInt(all.length() + 1);
            char c = ALPHABET.charAt(random.nextInt(ALPHABET.length()));
            switch (random.nextInt(4)) {
                case 0 -> all.insert(place, c);
                case 1 -> all.setLength(place);
                case 2 -> all.delete(place, Math.min(place + 1, all.length()));
                default -> all.replace(place, Math.min(place + 1, all.length()), "" + c);
            }
        }
        return all.toString();
    }

    // ---- random types

    /** Mostly one that every role has a part of. */
    private Model.T globalType() {
        Model.T type = null;
        for (int k = 0; k < 400; k++) {
            type = global("", "", 1 + random.nextInt(6), 2 + random.nextInt(3));
            int size = Model.print(type).length();
            if (size <= 100 && size > 3 && Model.typesIn(type) <= 30 && (random.nextInt(40) == 0 || everyPart(type))) {
                return type;
            }
        }
        return type;
    }

    private static boolean everyPart(Model.T type) {
        for (char r = 'a'; r <= 'd'; r++) {
            if (Model.partOf(type, r) == null) {
                return false;
            }
        }
        return true;
    }

    private Model.T leaf(String usable) {
        if (!usable.isEmpty() && random.nextInt(4) > 0) {
            return new Model.Var(usable.charAt(random.nextInt(usable.length())));
        }
        return new Model.End();
    }

    private Model.T global(String bound, String usable, int depth, int roles) {
        if (depth <= 0) {
            return leaf(usable);
        }
        if (random.nextInt(4) == 0) {
            char v = "XYZ".charAt(random.nextInt(3));
            return new Model.Loop(v, global(with(bound, v), without(usable, v), depth - 1, roles));
        }
        if (random.nextInt(8) == 0) {
            return leaf(usable);
        }
        char from = (char) ('a' + random.nextInt(roles));
        char to = from;
        while (to == from) {
            to = (char) ('a' + random.nextInt(roles));
        }
        int count = random.nextInt(2) == 0 ? 1 : 1 + random.nextInt(3);
        List<Model.Branch> branches = new ArrayList<>();
        for (char label : labels(count)) {
            Model.T type = !branches.isEmpty() && random.nextInt(3) == 0
                    ? relabelled(branches.get(0).type()) : global(bound, bound, depth - 1, roles);
            branches.add(new Model.Branch(label, sort(), type));
        }
        return new Model.Msg(from, '>', to, branches);
    }

    /** A type of the same shape with some other labels, so that merging has something to do. */
    private Model.T relabelled(Model.T type) {
        if (type instanceof Model.Loop l) {
            return new Model.Loop(l.name(), relabelled(l.body()));
        }
        if (!(type instanceof Model.Msg m)) {
            return type;
        }
        List<Character> labels = labels(m.branches().size());
        boolean others = random.nextInt(3) == 0;
        List<Model.Branch> branches = new ArrayList<>();
        for (int k = 0; k < labels.size(); k++) {
            Model.Branch b = m.branches().get(k);
            branches.add(new Model.Branch(others ? labels.get(k) : b.label(), b.sort(), relabelled(b.type())));
        }
        if (random.nextInt(3) == 0) {
            Collections.shuffle(branches, random);
        }
        return new Model.Msg(m.from(), '>', m.to(), branches);
    }

    private Model.T local(String bound, String usable, int depth) {
        if (depth <= 0 || random.nextInt(6) == 0) {
            return leaf(usable);
        }
        if (random.nextInt(4) == 0) {
            char v = "XYZ".charAt(random.nextInt(3));
            return new Model.Loop(v, local(with(bound, v), without(usable, v), depth - 1));
        }
        char partner = (char) ('a' + random.nextInt(4));
        List<Model.Branch> branches = new ArrayList<>();
        for (char label : labels(1 + random.nextInt(2))) {
            branches.add(new Model.Branch(label, sort(), local(bound, bound, depth - 1)));
        }
        return new Model.Msg(partner, "!?".charAt(random.nextInt(2)), partner, branches);
    }

    /** Mostly a type that refines the given one. */
    private Model.T varied(Model.T type, int depth) {
        if (type instanceof Model.Loop l) {
            Model.Loop loop = new Model.Loop(l.name(), varied(l.body(), depth));
            return depth > 2 && random.nextInt(3) == 0 ? unrolled(loop.body(), loop) : loop;
        }
        if (!(type instanceof Model.Msg m)) {
            return random.nextInt(60) == 0 ? local("", "", 1) : type;
        }
        List<Model.Branch> branches = new ArrayList<>();
        StringBuilder used = new StringBuilder();
        for (Model.Branch b : m.branches()) {
            boolean spoil = random.nextInt(40) == 0;
            branches.add(new Model.Branch(b.label(), spoil ? sort() : b.sort(), varied(b.type(), depth - 1)));
            used.append(b.label());
        }
        boolean fewer = m.mark() == '!' && random.nextInt(3) == 0 || random.nextInt(60) == 0;
        if (fewer && branches.size() > 1) {
            branches.remove(random.nextInt(branches.size()));
        }
        boolean more = m.mark() == '?' && random.nextInt(3) == 0 || random.nextInt(60) == 0;
        char label = (char) ('f' + random.nextInt(6));
        if (more && used.indexOf("" + label) < 0) {
            branches.add(new Model.Branch(label, sort(), local("", "", 1)));
        }
        if (random.nextInt(4) == 0) {
            Collections.shuffle(branches, random);
        }
        char partner = random.nextInt(60) == 0 ? (char) ('a' + random.nextInt(4)) : m.from();
        return new Model.Msg(partner, m.mark(), partner, branches);
    }

    private static Model.T unrolled(Model.T type, Model.Loop loop) {
        if (type instanceof Model.Var v) {
            return v.name() == loop.name() ? loop : v;
        }
        if (type instanceof Model.Loop l) {
            return l.name() == loop.name() ? l : new Model.Loop(l.name(), unrolled(l.body(), loop));
        }
        if (!(type instanceof Model.Msg m)) {
            return type;
        }
        List<Model.Branch> branches = new ArrayList<>();
        for (Model.Branch b : m.branches()) {
            branches.add(new Model.Branch(b.label(), b.sort(), unrolled(b.type(), loop)));
        }
        return new Model.Msg(m.from(), m.mark(), m.to(), branches);
    }

    private List<Character> labels(int count) {
        List<Character> all = new ArrayList<>(List.of('f', 'g', 'h', 'i', 'j', 'k'));
        if (random.nextInt(3) > 0) {
            Collections.shuffle(all, random);
        }
        return all.subList(0, count);
    }

    private char sort() {
        return random.nextInt(3) > 0 ? '0' : (char) ('0' + random.nextInt(3));
    }

    private static String with(String set, char c) {
        return without(set, c) + c;
    }

    private static String without(String set, char c) {
        return set.replace("" + c, "");
    }

    // ---- calls of a session

    private boolean begin() {
        boolean answer = model.begin();
        begun += answer ? 1 : 0;
        return same("begin()", x.begin(), answer);
    }

    private boolean act() {
        int r = number(4);
        int q = number(4);
        int label = number(6);
        int sort = number(3);
        boolean known = model.size(2) == 1 && r >= 0 && r < 4 && random.nextInt(5) > 0;
        if (known) {
            Model.State now = model.now(r);
            q = now.partner();
            if (!now.edges().isEmpty()) {
                Model.Edge edge = now.edges().get(random.nextInt(now.edges().size()));
                label = edge.label();
                sort = edge.sort();
            }
        }
        int answer;
        switch (random.nextInt(25)) {
            case 0:
                return same("estrange(" + r + ")", x.estrange(r), model.estrange(r));
            case 1, 2, 3, 4, 5, 6:
                return same("send(" + r + "," + label + ")", x.send(r, label), model.send(r, label));
            case 7, 8, 9, 10, 11, 12:
                answer = model.receive(r);
                misfits += answer == -4 ? 1 : 0;
                return same("receive(" + r + ")", x.receive(r), answer);
            case 13, 14, 15, 16, 17, 18:
                answer = model.say(r, q, label, sort);
                faultsOfStrangers += answer == -2 ? 1 : 0;
                return same("say(" + r + "," + q + "," + label + "," + sort + ")", x.say(r, q, label, sort), answer);
            default:
                answer = model.take(r, q);
                misfits += answer == -4 ? 1 : 0;
                faultsOfStrangers += answer == -2 ? 1 : 0;
                return same("take(" + r + "," + q + ")", x.take(r, q), answer);
        }
    }

    private boolean look() {
        int r = number(4);
        int q = number(4);
        int what = number(4);
        int s = number(6);
        switch (random.nextInt(7)) {
            case 0:
                return same("at(" + r + "," + what + ")", x.at(r, what), model.at(r, what));
            case 1:
                return same("queue(" + r + "," + q + ")", x.queue(r, q), model.queue(r, q));
            case 2:
                return same("ready()", x.ready(), model.ready());
            case 3:
                return same("size(" + what + ")", x.size(what), model.size(what));
            case 4:
                return same("state(" + r + "," + s + "," + what + ")", x.state(r, s, what), model.state(r, s, what));
            case 5:
                return same("label(" + r + "," + s + "," + q + "," + what + ")",
                        x.label(r, s, q, what), model.label(r, s, q, what));
            default:
                return same("part(" + r + ")", x.part(r), model.part(r));
        }
    }

    /** Mostly 0 .. count - 1, now and then beside it. */
    private int number(int count) {
        switch (random.nextInt(80)) {
            case 0:
                return -1;
            case 1:
                return count;
            case 2:
                return random.nextBoolean() ? Integer.MAX_VALUE : Integer.MIN_VALUE;
            default:
                return random.nextInt(count);
        }
    }
}
