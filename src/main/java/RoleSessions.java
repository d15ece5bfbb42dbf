/**
 * Protocols among four roles: a typed text is read as a global type, every role gets its part of it,
 * processes are checked against the parts, and a session runs the machines of both over queues.
 */
public final class RoleSessions {
    public static final int BAD = -1;
    public static final int REFUSED = -2;
    public static final int WAIT = -3;
    public static final int MISFIT = -4;

    private static final int FAULT_BASE = -100;
    private static final int NONE = -1;

    private static final int ROLES = 4;
    private static final int LABELS = 6;
    private static final int SORTS = 3;
    private static final int VARIABLES = 3;
    private static final int TEXT_LIMIT = 100;
    private static final int TYPE_LIMIT = 30;
    private static final int QUEUE_LIMIT = 4;

    // The first three are also what the document answers as the kind of a state.
    private static final int END = 0;
    private static final int SENDS = 1;
    private static final int RECEIVES = 2;
    private static final int MESSAGE = 3;
    private static final int LOOP = 4;
    private static final int VARIABLE = 5;

    private final Text text;
    private final Reader reader;
    private final Builder builder;
    private final Refinement refinement;
    private final Session session;
    private final Machine[] parts;
    private final Machine[] processes;
    private final boolean[] hasProcess;
    // A process is built here first, so that one that is refused leaves the role's own untouched.
    private Machine spare;
    private int protocolTypes;

    public RoleSessions() {
        text = new Text();
        reader = new Reader(text);
        builder = new Builder();
        refinement = new Refinement();
        session = new Session();
        parts = new Machine[ROLES];
        processes = new Machine[ROLES];
        hasProcess = new boolean[ROLES];
        for (int r = 0; r < ROLES; r++) {
            parts[r] = new Machine();
            processes[r] = new Machine();
        }
        spare = new Machine();
    }

    public int type(char c) {
        return text.add(c) ? text.length() : BAD;
    }

    public int protocol() {
        Type type = reader.readWhole(false);
        text.clear();
        if (type == null) {
            return FAULT_BASE - reader.place();
        }
        for (int r = 0; r < ROLES; r++) {
            builder.build(Projection.partFor(r, type), parts[r]);
            hasProcess[r] = false;
        }
        protocolTypes = reader.typeCount();
        session.close();
        return protocolTypes;
    }

    public int part(int r) {
        return hasProtocol() && isRole(r) ? parts[r].stateCount() : BAD;
    }

    public int process(int r) {
        if (!hasProtocol() || !isRole(r)) {
            return BAD;
        }
        Type type = reader.readWhole(true);
        text.clear();
        if (type == null) {
            return FAULT_BASE - reader.place();
        }
        builder.build(type, spare);
        if (!refinement.holds(spare, parts[r])) {
            return REFUSED;
        }
        adoptSpare(r);
        session.close();
        return processes[r].stateCount();
    }

    public int state(int r, int s, int what) {
        Machine machine = machineOf(r);
        if (machine == null || !machine.hasState(s)) {
            return BAD;
        }
        switch (what) {
            case 0:
                return machine.kindOf(s);
            case 1:
                return machine.kindOf(s) == END ? BAD : machine.partnerOf(s);
            case 2:
                return machine.branchCountOf(s);
            default:
                return BAD;
        }
    }

    public int label(int r, int s, int k, int what) {
        Machine machine = machineOf(r);
        if (machine == null || !machine.hasState(s) || k < 0 || k >= machine.branchCountOf(s)) {
            return BAD;
        }
        int branch = machine.firstBranchOf(s) + k;
        switch (what) {
            case 0:
                return machine.labelOf(branch);
            case 1:
                return machine.sortOf(branch);
            case 2:
                return machine.targetOf(branch);
            default:
                return BAD;
        }
    }

    public boolean begin() {
        if (!everyRoleHasMachine()) {
            return false;
        }
        for (int r = 0; r < ROLES; r++) {
            session.seat(r, machineOf(r));
        }
        session.open();
        return true;
    }

    public int send(int r, int label) {
        if (!inSession(r) || !isLabel(label)) {
            return BAD;
        }
        return session.sendOwn(r, label);
    }

    public int receive(int r) {
        return inSession(r) ? session.receiveOwn(r) : BAD;
    }

    public boolean estrange(int r) {
        return inSession(r) && session.makeStrange(r);
    }

    public int say(int r, int q, int label, int sort) {
        if (!areStrangeAndOther(r, q) || !isLabel(label) || !isSort(sort)) {
            return BAD;
        }
        return session.sayMonitored(r, q, label, sort);
    }

    public int take(int r, int p) {
        return areStrangeAndOther(r, p) ? session.takeMonitored(r, p) : BAD;
    }

    public int at(int r, int what) {
        if (!inSession(r)) {
            return BAD;
        }
        switch (what) {
            case 0:
                return session.stateOf(r);
            case 1:
                return session.faultsOf(r);
            case 2:
                return session.isStrange(r) ? 1 : 0;
            default:
                return BAD;
        }
    }

    public int queue(int p, int q) {
        return inSession(p) && isRole(q) && p != q ? session.lettersBetween(p, q) : BAD;
    }

    public int ready() {
        return session.isOpen() ? session.readyRoles() : BAD;
    }

    public int size(int what) {
        switch (what) {
            case 0:
                return text.length();
            case 1:
                return protocolTypes;
            case 2:
                return session.isOpen() ? 1 : 0;
            case 3:
                return session.isOpen() ? session.sentLetters() : 0;
            default:
                return BAD;
        }
    }

    private static boolean isRole(int r) {
        return r >= 0 && r < ROLES;
    }

    private static boolean isLabel(int label) {
        return label >= 0 && label < LABELS;
    }

    private static boolean isSort(int sort) {
        return sort >= 0 && sort < SORTS;
    }

    private boolean hasProtocol() {
        return protocolTypes > 0;
    }

    private boolean inSession(int r) {
        return session.isOpen() && isRole(r);
    }

    private boolean areStrangeAndOther(int r, int other) {
        return inSession(r) && isRole(other) && r != other && session.isStrange(r);
    }

    private Machine machineOf(int r) {
        if (!hasProtocol() || !isRole(r)) {
            return null;
        }
        return hasProcess[r] ? processes[r] : parts[r];
    }

    private boolean everyRoleHasMachine() {
        for (int r = 0; r < ROLES; r++) {
            Machine machine = machineOf(r);
            if (machine == null || machine.stateCount() == 0) {
                return false;
            }
        }
        return true;
    }

    private void adoptSpare(int r) {
        Machine old = processes[r];
        processes[r] = spare;
        hasProcess[r] = true;
        spare = old;
    }

    /** The characters that are typed. */
    private static final class Text {
        private final char[] characters = new char[TEXT_LIMIT];
        private int length;

        boolean add(char c) {
            if (length >= TEXT_LIMIT) {
                return false;
            }
            characters[length] = c;
            length++;
            return true;
        }

        void clear() {
            length = 0;
        }

        int length() {
            return length;
        }

        boolean has(int place, char c) {
            return place >= 0 && place < length && characters[place] == c;
        }

        /** How far the character is behind the first one of a row of neighbours; NONE if it is none of them. */
        int offsetAt(int place, char first, int count) {
            if (place < 0 || place >= length) {
                return NONE;
            }
            int offset = characters[place] - first;
            return offset >= 0 && offset < count ? offset : NONE;
        }
    }

    /** A global or local type with the types in it; as a branch of a message it bears its label and sort. */
    private static final class Type {
        private final int kind;
        // Of a loop or a variable the variable, of a message the sender, of a local one the partner.
        private final int subject;
        // Of a global message alone.
        private final int receiver;
        private int label;
        private int sort;
        // The type of a loop, or the first branch of a message.
        private Type first;
        private Type next;
        // Sets of bits: who stands in this type, and which variables of loops outside of it are used in it.
        private int roles;
        private int freeVariables;
        // Set by the builder: the state that it is, and of a variable its loop.
        private int number;
        private Type loop;

        Type(int kind, int subject, int receiver) {
            this.kind = kind;
            this.subject = subject;
            this.receiver = receiver;
        }

        void addBranch(Type branch) {
            branch.next = null;
            if (first == null) {
                first = branch;
                return;
            }
            Type last = first;
            while (last.next != null) {
                last = last.next;
            }
            last.next = branch;
        }

        Type branchWith(int wanted) {
            for (Type branch = first; branch != null; branch = branch.next) {
                if (branch.label == wanted) {
                    return branch;
                }
            }
            return null;
        }

        int branchCount() {
            int count = 0;
            for (Type branch = first; branch != null; branch = branch.next) {
                count++;
            }
            return count;
        }
    }

    /** Reads the text from the left; where it is at fault, the place stays on the fault. */
    private static final class Reader {
        private final Text text;
        private boolean local;
        private int place;
        private int typeCount;

        Reader(Text text) {
            this.text = text;
        }

        int place() {
            return place;
        }

        int typeCount() {
            return typeCount;
        }

        Type readWhole(boolean asLocal) {
            local = asLocal;
            place = 0;
            typeCount = 0;
            Type type = readType(0, 0);
            return type != null && place == text.length() ? type : null;
        }

        /** Every level counts a type, so the limit of the types limits the depth as well. */
        private Type readType(int bound, int usable) {
            if (typeCount >= TYPE_LIMIT) {
                return null;
            }
            typeCount++;
            if (skip('e')) {
                return new Type(END, NONE, NONE);
            }
            if (skip('m')) {
                return readLoop(bound, usable);
            }
            int role = readOneOf('a', ROLES);
            return role == NONE ? readVariable(usable) : readMessage(role, bound);
        }

        private Type readVariable(int usable) {
            int variable = text.offsetAt(place, 'X', VARIABLES);
            if (variable == NONE || (usable & (1 << variable)) == 0) {
                return null;
            }
            place++;
            Type type = new Type(VARIABLE, variable, NONE);
            type.freeVariables = 1 << variable;
            return type;
        }

        private Type readLoop(int bound, int usable) {
            int variable = readOneOf('X', VARIABLES);
            if (variable == NONE || !skip('.')) {
                return null;
            }
            int own = 1 << variable;
            // An outer loop of the same variable is hidden here, so its messages no longer count for it.
            Type body = readType(bound | own, usable & ~own);
            if (body == null) {
                return null;
            }
            Type loop = new Type(LOOP, variable, NONE);
            loop.first = body;
            loop.roles = body.roles;
            loop.freeVariables = body.freeVariables & ~own;
            return loop;
        }

        private Type readMessage(int role, int bound) {
            Type message = local ? readLocalHead(role) : readGlobalHead(role);
            if (message == null || !skip('{')) {
                return null;
            }
            int used = 0;
            for (int k = 0; k < LABELS; k++) {
                Type branch = readBranch(used, bound);
                if (branch == null) {
                    return null;
                }
                used |= 1 << branch.label;
                message.addBranch(branch);
                message.roles |= branch.roles;
                message.freeVariables |= branch.freeVariables;
                if (skip('}')) {
                    return message;
                }
                if (!skip(',')) {
                    return null;
                }
            }
            // A comma stood behind the last label that there is: whatever follows is at fault.
            return null;
        }

        private Type readGlobalHead(int sender) {
            if (!skip('>')) {
                return null;
            }
            int receiver = text.offsetAt(place, 'a', ROLES);
            if (receiver == NONE || receiver == sender) {
                return null;
            }
            place++;
            Type message = new Type(MESSAGE, sender, receiver);
            message.roles = (1 << sender) | (1 << receiver);
            return message;
        }

        private Type readLocalHead(int partner) {
            if (skip('!')) {
                return new Type(SENDS, partner, NONE);
            }
            return skip('?') ? new Type(RECEIVES, partner, NONE) : null;
        }

        private Type readBranch(int used, int bound) {
            int label = text.offsetAt(place, 'f', LABELS);
            if (label == NONE || (used & (1 << label)) != 0) {
                return null;
            }
            place++;
            int sort = readOneOf('0', SORTS);
            if (sort == NONE || !skip(':')) {
                return null;
            }
            // Behind a message every variable that is bound can be used.
            Type branch = readType(bound, bound);
            if (branch != null) {
                branch.label = label;
                branch.sort = sort;
            }
            return branch;
        }

        private boolean skip(char c) {
            boolean there = text.has(place, c);
            if (there) {
                place++;
            }
            return there;
        }

        private int readOneOf(char first, int count) {
            int offset = text.offsetAt(place, first, count);
            if (offset != NONE) {
                place++;
            }
            return offset;
        }
    }

    /** The part of a role in a global type; null stands for no part. */
    private static final class Projection {
        static Type partFor(int r, Type type) {
            return partOf(type, r, 0);
        }

        private static Type partOf(Type type, int r, int depth) {
            if (type == null || depth > TYPE_LIMIT) {
                return null;
            }
            switch (type.kind) {
                case VARIABLE:
                    return new Type(VARIABLE, type.subject, NONE);
                case LOOP:
                    return partOfLoop(type, r, depth);
                case MESSAGE:
                    return partOfMessage(type, r, depth);
                default:
                    return new Type(END, NONE, NONE);
            }
        }

        private static Type partOfLoop(Type loop, int r, int depth) {
            // The part of the loop's type isn't asked for then: it is e even where that part doesn't exist.
            if ((loop.roles & (1 << r)) == 0 && loop.freeVariables == 0) {
                return new Type(END, NONE, NONE);
            }
            Type body = partOf(loop.first, r, depth + 1);
            if (body == null) {
                return null;
            }
            Type part = new Type(LOOP, loop.subject, NONE);
            part.first = body;
            return part;
        }

        private static Type partOfMessage(Type message, int r, int depth) {
            if (message.subject == r) {
                return withBranches(new Type(SENDS, message.receiver, NONE), message, r, depth);
            }
            if (message.receiver == r) {
                return withBranches(new Type(RECEIVES, message.subject, NONE), message, r, depth);
            }
            Type merged = null;
            for (Type branch = message.first; branch != null; branch = branch.next) {
                Type part = partOf(branch, r, depth + 1);
                if (part == null || merged != null && !merge(merged, part, 0)) {
                    return null;
                }
                merged = merged == null ? part : merged;
            }
            return merged;
        }

        private static Type withBranches(Type part, Type message, int r, int depth) {
            for (Type branch = message.first; branch != null; branch = branch.next) {
                Type branchPart = partOf(branch, r, depth + 1);
                if (branchPart == null) {
                    return null;
                }
                branchPart.label = branch.label;
                branchPart.sort = branch.sort;
                part.addBranch(branchPart);
            }
            return part;
        }

        /** Merges the second type into the first one, which no other type shares; false if they can't be merged. */
        private static boolean merge(Type first, Type second, int depth) {
            if (first == null || second == null || depth > TYPE_LIMIT) {
                return false;
            }
            if (first.kind != second.kind || first.subject != second.subject) {
                return false;
            }
            switch (first.kind) {
                case LOOP:
                    return merge(first.first, second.first, depth + 1);
                case SENDS:
                    return first.branchCount() == second.branchCount() && mergeBranches(first, second, depth);
                case RECEIVES:
                    if (!mergeBranches(first, second, depth)) {
                        return false;
                    }
                    adoptOtherBranches(first, second);
                    return true;
                default:
                    return true;
            }
        }

        private static boolean mergeBranches(Type first, Type second, int depth) {
            for (Type branch = first.first; branch != null; branch = branch.next) {
                Type other = second.branchWith(branch.label);
                if (other == null && first.kind == SENDS) {
                    return false;
                }
                if (other != null && (branch.sort != other.sort || !merge(branch, other, depth + 1))) {
                    return false;
                }
            }
            return true;
        }

        private static void adoptOtherBranches(Type first, Type second) {
            Type branch = second.first;
            while (branch != null) {
                Type following = branch.next;
                if (first.branchWith(branch.label) == null) {
                    first.addBranch(branch);
                }
                branch = following;
            }
        }
    }

    /** The states of a local type, none if it has no machine; its rows are made once and filled anew. */
    private static final class Machine {
        private final int[] kinds = new int[TYPE_LIMIT];
        private final int[] partners = new int[TYPE_LIMIT];
        private final int[] firstBranches = new int[TYPE_LIMIT];
        private final int[] branchCounts = new int[TYPE_LIMIT];
        // Every branch has a type of its own, so the branches of all states are fewer than the types.
        private final int[] labels = new int[TYPE_LIMIT];
        private final int[] sorts = new int[TYPE_LIMIT];
        private final int[] targets = new int[TYPE_LIMIT];
        private int stateCount;
        private int branchTotal;

        void clear() {
            stateCount = 0;
            branchTotal = 0;
        }

        void addState(int kind, int partner) {
            if (stateCount < TYPE_LIMIT) {
                kinds[stateCount] = kind;
                partners[stateCount] = partner;
                firstBranches[stateCount] = branchTotal;
                branchCounts[stateCount] = 0;
                stateCount++;
            }
        }

        /** Adds a branch to the newest state. */
        void addBranch(int label, int sort, int target) {
            if (stateCount > 0 && branchTotal < TYPE_LIMIT) {
                labels[branchTotal] = label;
                sorts[branchTotal] = sort;
                targets[branchTotal] = target;
                branchTotal++;
                branchCounts[stateCount - 1]++;
            }
        }

        int stateCount() {
            return stateCount;
        }

        boolean hasState(int s) {
            return s >= 0 && s < stateCount;
        }

        int kindOf(int s) {
            return kinds[s];
        }

        int partnerOf(int s) {
            return partners[s];
        }

        int firstBranchOf(int s) {
            return firstBranches[s];
        }

        int branchCountOf(int s) {
            return branchCounts[s];
        }

        int labelOf(int branch) {
            return labels[branch];
        }

        int sortOf(int branch) {
            return sorts[branch];
        }

        int targetOf(int branch) {
            return targets[branch];
        }

        int branchWith(int s, int label) {
            int behind = firstBranches[s] + branchCounts[s];
            for (int branch = firstBranches[s]; branch < behind; branch++) {
                if (labels[branch] == label) {
                    return branch;
                }
            }
            return NONE;
        }

        int branchWith(int s, int label, int sort) {
            int branch = branchWith(s, label);
            return branch != NONE && sorts[branch] == sort ? branch : NONE;
        }
    }

    /** Makes machines of local types. */
    private static final class Builder {
        private final Type[] states = new Type[TYPE_LIMIT];
        // Of each variable the innermost loop round the type that is gone through.
        private final Type[] loops = new Type[VARIABLES];
        private int stateCount;

        void build(Type type, Machine machine) {
            machine.clear();
            stateCount = 0;
            if (!number(type, 0) || beginningOf(type) == null) {
                return;
            }
            for (int s = 0; s < stateCount; s++) {
                if (!copyState(states[s], machine)) {
                    machine.clear();
                    return;
                }
            }
        }

        private static boolean copyState(Type state, Machine machine) {
            machine.addState(state.kind, state.subject);
            for (Type branch = state.first; branch != null; branch = branch.next) {
                Type target = beginningOf(branch);
                if (target == null) {
                    return false;
                }
                machine.addBranch(branch.label, branch.sort, target.number);
            }
            return true;
        }

        /** Numbers the states and ties the variables to their loops; false if a variable has none. */
        private boolean number(Type type, int depth) {
            if (type == null || depth > TYPE_LIMIT) {
                return false;
            }
            switch (type.kind) {
                case VARIABLE:
                    type.loop = loops[type.subject];
                    return type.loop != null;
                case LOOP:
                    return numberLoop(type, depth);
                default:
                    return numberState(type, depth);
            }
        }

        private boolean numberLoop(Type loop, int depth) {
            Type outer = loops[loop.subject];
            loops[loop.subject] = loop;
            boolean numbered = number(loop.first, depth + 1);
            loops[loop.subject] = outer;
            return numbered;
        }

        private boolean numberState(Type type, int depth) {
            if (stateCount >= TYPE_LIMIT) {
                return false;
            }
            type.number = stateCount;
            states[stateCount] = type;
            stateCount++;
            for (Type branch = type.first; branch != null; branch = branch.next) {
                if (!number(branch, depth + 1)) {
                    return false;
                }
            }
            return true;
        }

        /** The state with which a type begins; null where loops and variables lead round in a ring. */
        private static Type beginningOf(Type type) {
            Type reached = type;
            // Without a ring every type is passed once at most.
            for (int step = 0; step <= TYPE_LIMIT && reached != null; step++) {
                if (reached.kind == LOOP) {
                    reached = reached.first;
                } else if (reached.kind == VARIABLE) {
                    reached = reached.loop;
                } else {
                    return reached;
                }
            }
            return null;
        }
    }

    /** Whether a process refines a part: no pair of states that can be reached has anything against it. */
    private static final class Refinement {
        private static final int PAIR_LIMIT = TYPE_LIMIT * TYPE_LIMIT;

        private final boolean[] known = new boolean[PAIR_LIMIT];
        private final int[] pairs = new int[PAIR_LIMIT];
        private int pairCount;
        private Machine process;
        private Machine part;

        boolean holds(Machine ofProcess, Machine ofPart) {
            if (ofProcess.stateCount() == 0 || ofPart.stateCount() == 0) {
                return false;
            }
            process = ofProcess;
            part = ofPart;
            forgetPairs();
            addPair(0, 0);
            for (int k = 0; k < pairCount && k < PAIR_LIMIT; k++) {
                if (!pairFits(pairs[k] / TYPE_LIMIT, pairs[k] % TYPE_LIMIT)) {
                    return false;
                }
            }
            return true;
        }

        private void forgetPairs() {
            for (int pair = 0; pair < PAIR_LIMIT; pair++) {
                known[pair] = false;
            }
            pairCount = 0;
        }

        private void addPair(int own, int due) {
            int pair = own * TYPE_LIMIT + due;
            if (pair >= 0 && pair < PAIR_LIMIT && !known[pair] && pairCount < PAIR_LIMIT) {
                known[pair] = true;
                pairs[pairCount] = pair;
                pairCount++;
            }
        }

        private boolean pairFits(int own, int due) {
            int kind = process.kindOf(own);
            if (kind != part.kindOf(due)) {
                return false;
            }
            if (kind == END) {
                return true;
            }
            if (process.partnerOf(own) != part.partnerOf(due)) {
                return false;
            }
            return kind == SENDS ? sendingFits(own, due) : receivingFits(own, due);
        }

        private boolean sendingFits(int own, int due) {
            int behind = process.firstBranchOf(own) + process.branchCountOf(own);
            for (int branch = process.firstBranchOf(own); branch < behind; branch++) {
                int allowed = part.branchWith(due, process.labelOf(branch), process.sortOf(branch));
                if (allowed == NONE) {
                    return false;
                }
                addPair(process.targetOf(branch), part.targetOf(allowed));
            }
            return true;
        }

        private boolean receivingFits(int own, int due) {
            int behind = part.firstBranchOf(due) + part.branchCountOf(due);
            for (int branch = part.firstBranchOf(due); branch < behind; branch++) {
                int taken = process.branchWith(own, part.labelOf(branch), part.sortOf(branch));
                if (taken == NONE) {
                    return false;
                }
                addPair(process.targetOf(taken), part.targetOf(branch));
            }
            return true;
        }
    }

    /** The queues from each role to each role; a letter is one number for its label and its sort. */
    private static final class Queues {
        private final int[] letters = new int[ROLES * ROLES * QUEUE_LIMIT];
        private final int[] lengths = new int[ROLES * ROLES];

        void clear() {
            for (int k = 0; k < lengths.length; k++) {
                lengths[k] = 0;
            }
        }

        int lengthOf(int from, int to) {
            return lengths[from * ROLES + to];
        }

        boolean hasRoom(int from, int to) {
            return lengthOf(from, to) < QUEUE_LIMIT;
        }

        void add(int from, int to, int label, int sort) {
            if (hasRoom(from, to)) {
                int which = from * ROLES + to;
                letters[which * QUEUE_LIMIT + lengths[which]] = label * SORTS + sort;
                lengths[which]++;
            }
        }

        int firstLabel(int from, int to) {
            return letters[(from * ROLES + to) * QUEUE_LIMIT] / SORTS;
        }

        int firstSort(int from, int to) {
            return letters[(from * ROLES + to) * QUEUE_LIMIT] % SORTS;
        }

        void dropFirst(int from, int to) {
            int which = from * ROLES + to;
            if (lengths[which] > 0) {
                lengths[which]--;
                int start = which * QUEUE_LIMIT;
                System.arraycopy(letters, start + 1, letters, start, lengths[which]);
            }
        }
    }

    /** A run of the roles' machines; of a strange role the machine is the monitor's. */
    private static final class Session {
        private final Machine[] machines = new Machine[ROLES];
        private final int[] states = new int[ROLES];
        private final int[] faults = new int[ROLES];
        private final boolean[] strange = new boolean[ROLES];
        private final Queues queues = new Queues();
        private int sent;
        private boolean running;

        void seat(int r, Machine machine) {
            machines[r] = machine;
            states[r] = 0;
            faults[r] = 0;
            strange[r] = false;
        }

        void open() {
            queues.clear();
            sent = 0;
            running = true;
        }

        void close() {
            running = false;
        }

        boolean isOpen() {
            return running;
        }

        int stateOf(int r) {
            return states[r];
        }

        int faultsOf(int r) {
            return faults[r];
        }

        boolean isStrange(int r) {
            return strange[r];
        }

        int lettersBetween(int from, int to) {
            return queues.lengthOf(from, to);
        }

        int sentLetters() {
            return sent;
        }

        boolean makeStrange(int r) {
            if (strange[r]) {
                return false;
            }
            strange[r] = true;
            return true;
        }

        int sendOwn(int r, int label) {
            if (strange[r] || kindOf(r) != SENDS) {
                return REFUSED;
            }
            int branch = machines[r].branchWith(states[r], label);
            return branch == NONE ? REFUSED : put(r, branch);
        }

        int receiveOwn(int r) {
            return strange[r] || kindOf(r) != RECEIVES ? REFUSED : fetch(r);
        }

        int sayMonitored(int r, int q, int label, int sort) {
            int branch = kindOf(r) == SENDS && partnerOf(r) == q
                    ? machines[r].branchWith(states[r], label, sort) : NONE;
            if (branch == NONE) {
                faults[r]++;
                return REFUSED;
            }
            return put(r, branch);
        }

        int takeMonitored(int r, int p) {
            int answer = kindOf(r) == RECEIVES && partnerOf(r) == p ? fetch(r) : REFUSED;
            if (answer == REFUSED || answer == MISFIT) {
                faults[r]++;
            }
            return answer;
        }

        int readyRoles() {
            int count = 0;
            for (int r = 0; r < ROLES; r++) {
                if (canAct(r)) {
                    count++;
                }
            }
            return count;
        }

        private int kindOf(int r) {
            return machines[r].kindOf(states[r]);
        }

        private int partnerOf(int r) {
            return machines[r].partnerOf(states[r]);
        }

        private boolean canAct(int r) {
            switch (kindOf(r)) {
                case SENDS:
                    return queues.hasRoom(r, partnerOf(r));
                case RECEIVES:
                    return queues.lengthOf(partnerOf(r), r) > 0 && fittingBranch(r) != NONE;
                default:
                    return false;
            }
        }

        private int put(int r, int branch) {
            int partner = partnerOf(r);
            if (!queues.hasRoom(r, partner)) {
                return WAIT;
            }
            queues.add(r, partner, machines[r].labelOf(branch), machines[r].sortOf(branch));
            sent++;
            states[r] = machines[r].targetOf(branch);
            return states[r];
        }

        private int fetch(int r) {
            int partner = partnerOf(r);
            if (queues.lengthOf(partner, r) == 0) {
                return WAIT;
            }
            int branch = fittingBranch(r);
            if (branch == NONE) {
                return MISFIT;
            }
            queues.dropFirst(partner, r);
            states[r] = machines[r].targetOf(branch);
            return states[r];
        }

        /** The branch of a receiving role's state that the first letter of its queue takes. */
        private int fittingBranch(int r) {
            int partner = partnerOf(r);
            return machines[r].branchWith(states[r], queues.firstLabel(partner, r), queues.firstSort(partner, r));
        }
    }
}
