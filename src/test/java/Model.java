import java.util.ArrayDeque;
import java.util.ArrayList;
import java.util.Deque;
import java.util.HashMap;
import java.util.HashSet;
import java.util.IdentityHashMap;
import java.util.List;
import java.util.Map;
import java.util.Set;

/**
 * The document once more, written another way (an automaton finds faults, types are values, refining is a
 * greatest fixed point), so that ModelTest can hold the class against it.
 */
final class Model {
    interface T { }

    record End() implements T { }

    record Var(char name) implements T { }

    record Loop(char name, T body) implements T { }

    /** Of a global type: from, '>', to; of a local one: its partner twice, with '!' or '?'. */
    record Msg(char from, char mark, char to, List<Branch> branches) implements T { }

    record Branch(char label, char sort, T type) { }

    record Edge(int label, int sort, int target) { }

    record State(char mark, int partner, List<Edge> edges) { }

    private record Closure(T type, Map<Character, Closure> loops) { }

    private record Letter(int label, int sort) { }

    private final StringBuilder text = new StringBuilder();
    private T protocol;
    private int types;
    private final T[] parts = new T[4];
    final List<List<State>> partMachines = new ArrayList<>();
    private final List<List<State>> processMachines = new ArrayList<>();
    private boolean session;
    private final int[] at = new int[4];
    private final int[] faults = new int[4];
    private final boolean[] strange = new boolean[4];
    private final Map<String, Deque<Letter>> queues = new HashMap<>();
    private int sent;

    Model() {
        for (int r = 0; r < 4; r++) {
            partMachines.add(null);
            processMachines.add(null);
        }
    }

    // ---- faults: an automaton over single characters

    /** The place of the fault, or -1. */
    static int faultOf(String text, boolean local) {
        List<String> open = new ArrayList<>();
        String wanted = "type";
        int types = 0;
        char role = 0;
        for (int k = 0; k < text.length(); k++) {
            char c = text.charAt(k);
            int top = open.size() - 1;
            switch (wanted) {
                case "type" -> {
                    types++;
                    if (types > 30) {
                        return k;
                    }
                    if (c == 'e') {
                        wanted = afterType(open);
                    } else if (c == 'm') {
                        wanted = "variable";
                    } else if ("abcd".indexOf(c) >= 0) {
                        role = c;
                        wanted = "mark";
                    } else if ("XYZ".indexOf(c) >= 0 && usable(open, c)) {
                        wanted = afterType(open);
                    } else {
                        return k;
                    }
                }
                case "variable" -> {
                    if ("XYZ".indexOf(c) < 0) {
                        return k;
                    }
                    open.add("m" + c);
                    wanted = ".";
                }
                case "mark" -> {
                    if ((local ? "!?" : ">").indexOf(c) < 0) {
                        return k;
                    }
                    wanted = local ? "{" : "role";
                }
                case "role" -> {
                    if ("abcd".indexOf(c) < 0 || c == role) {
                        return k;
                    }
                    wanted = "{";
                }
                case "label" -> {
                    if ("fghijk".indexOf(c) < 0 || open.get(top).indexOf(c) >= 0) {
                        return k;
                    }
                    open.set(top, open.get(top) + c);
                    wanted = "sort";
                }
                case "sort" -> {
                    if ("012".indexOf(c) < 0) {
                        return k;
                    }
                    wanted = ":";
                }
                case "more" -> {
                    if (c == ',') {
                        wanted = "label";
                    } else if (c == '}') {
                        open.remove(top);
                        wanted = afterType(open);
                    } else {
                        return k;
                    }
                }
                case "nothing" -> {
                    return k;
                }
                default -> {
                    if (c != wanted.charAt(0)) {
                        return k;
                    }
                    if (c == '{') {
                        open.add("{");
                        wanted = "label";
                    } else {
                        wanted = "type";
                    }
                }
            }
        }
        return wanted.equals("nothing") ? -1 : text.length();
    }

    private static String afterType(List<String> open) {
        while (!open.isEmpty() && open.get(open.size() - 1).startsWith("m")) {
            open.remove(open.size() - 1);
        }
        return open.isEmpty() ? "nothing" : "more";
    }

    private static boolean usable(List<String> open, char variable) {
        boolean message = false;
        for (int k = open.size() - 1; k >= 0; k--) {
            if (open.get(k).equals("m" + variable)) {
                return message;
            }
            message |= open.get(k).startsWith("{");
        }
        return false;
    }

    // ---- types of a text without a fault

    static T parse(String text) {
        return parse(text, new int[1]);
    }

    private static T parse(String text, int[] place) {
        char c = text.charAt(place[0]++);
        if (c == 'e') {
            return new End();
        }
        if (c >= 'X' && c <= 'Z') {
            return new Var(c);
        }
        if (c == 'm') {
            char name = text.charAt(place[0]);
            place[0] += 2;
            return new Loop(name, parse(text, place));
        }
        char mark = text.charAt(place[0]++);
        char to = mark == '>' ? text.charAt(place[0]++) : c;
        List<Branch> branches = new ArrayList<>();
        while (text.charAt(place[0]++) != '}') {
            char label = text.charAt(place[0]);
            char sort = text.charAt(place[0] + 1);
            place[0] += 3;
            branches.add(new Branch(label, sort, parse(text, place)));
        }
        return new Msg(c, mark, to, branches);
    }

    static String print(T type) {
        if (type instanceof Var v) {
            return "" + v.name;
        }
        if (type instanceof Loop l) {
            return "m" + l.name + "." + print(l.body);
        }
        if (type instanceof Msg m) {
            StringBuilder all = new StringBuilder().append(m.from).append(m.mark);
            if (m.mark == '>') {
                all.append(m.to);
            }
            String before = "{";
            for (Branch b : m.branches) {
                all.append(before).append(b.label).append(b.sort).append(':').append(print(b.type));
                before = ",";
            }
            return all.append('}').toString();
        }
        return "e";
    }

    static int typesIn(T type) {
        if (type instanceof Loop l) {
            return 1 + typesIn(l.body);
        }
        int count = 1;
        if (type instanceof Msg m) {
            for (Branch b : m.branches) {
                count += typesIn(b.type);
            }
        }
        return count;
    }

    // ---- parts

    private static Set<Character> rolesIn(T type) {
        Set<Character> roles = new HashSet<>();
        for (char c : print(type).toCharArray()) {
            roles.add(c);
        }
        return roles;
    }

    private static Set<Character> usedFromOutside(T type) {
        Set<Character> used = new HashSet<>();
        if (type instanceof Var v) {
            used.add(v.name);
        } else if (type instanceof Loop l) {
            used.addAll(usedFromOutside(l.body));
            used.remove(l.name);
        } else if (type instanceof Msg m) {
            for (Branch b : m.branches) {
                used.addAll(usedFromOutside(b.type));
            }
        }
        return used;
    }

    /** The part, or null. */
    static T partOf(T type, char r) {
        if (type instanceof Var v) {
            return new Var(v.name);
        }
        if (type instanceof Loop l) {
            T body = partOf(l.body, r);
            if (rolesIn(l.body).contains(r) || !usedFromOutside(l).isEmpty()) {
                return body == null ? null : new Loop(l.name, body);
            }
            return new End();
        }
        if (!(type instanceof Msg m)) {
            return new End();
        }
        List<Branch> own = new ArrayList<>();
        for (Branch b : m.branches) {
            T part = partOf(b.type, r);
            if (part == null) {
                return null;
            }
            own.add(new Branch(b.label, b.sort, part));
        }
        if (m.from == r) {
            return new Msg(m.to, '!', m.to, own);
        }
        if (m.to == r) {
            return new Msg(m.from, '?', m.from, own);
        }
        T merged = own.get(0).type;
        for (int k = 1; k < own.size() && merged != null; k++) {
            merged = merge(merged, own.get(k).type);
        }
        return merged;
    }

    private static T merge(T one, T two) {
        if (one instanceof End && two instanceof End) {
            return new End();
        }
        if (one instanceof Var v && two instanceof Var w) {
            return v.name == w.name ? new Var(v.name) : null;
        }
        if (one instanceof Loop l && two instanceof Loop o) {
            T body = l.name == o.name ? merge(l.body, o.body) : null;
            return body == null ? null : new Loop(l.name, body);
        }
        if (!(one instanceof Msg m) || !(two instanceof Msg n) || m.mark != n.mark || m.from != n.from) {
            return null;
        }
        List<Branch> all = new ArrayList<>();
        for (Branch b : m.branches) {
            Branch c = find(n, b.label);
            if (c == null) {
                all.add(b);
                continue;
            }
            T both = b.sort == c.sort ? merge(b.type, c.type) : null;
            if (both == null) {
                return null;
            }
            all.add(new Branch(b.label, b.sort, both));
        }
        for (Branch c : n.branches) {
            if (find(m, c.label) == null) {
                all.add(c);
            }
        }
        boolean sameLabels = all.size() == m.branches.size() && all.size() == n.branches.size();
        return m.mark == '!' && !sameLabels ? null : new Msg(m.from, m.mark, m.to, all);
    }

    private static Branch find(Msg m, char label) {
        for (Branch b : m.branches) {
            if (b.label == label) {
                return b;
            }
        }
        return null;
    }

    // ---- machines

    /** The states, or null. */
    static List<State> machineOf(T type) {
        if (type == null) {
            return null;
        }
        List<State> states = new ArrayList<>();
        return visit(new Closure(type, Map.of()), states, new IdentityHashMap<>()) < 0 ? null : states;
    }

    private static int visit(Closure start, List<State> states, IdentityHashMap<T, Integer> numbers) {
        Closure c = start;
        for (int step = 0; !(c.type instanceof Msg || c.type instanceof End); step++) {
            if (step > 200) {
                return -1;
            }
            if (c.type instanceof Loop l) {
                Map<Character, Closure> loops = new HashMap<>(c.loops);
                loops.put(l.name, c);
                c = new Closure(l.body, loops);
            } else if (c.type instanceof Var v) {
                c = c.loops.get(v.name);
            }
        }
        if (numbers.containsKey(c.type)) {
            return numbers.get(c.type);
        }
        int number = states.size();
        numbers.put(c.type, number);
        if (!(c.type instanceof Msg m)) {
            states.add(new State('e', -1, List.of()));
            return number;
        }
        List<Edge> edges = new ArrayList<>();
        states.add(new State(m.mark, m.from - 'a', edges));
        for (Branch b : m.branches) {
            int target = visit(new Closure(b.type, c.loops), states, numbers);
            if (target < 0) {
                return -1;
            }
            edges.add(new Edge(b.label - 'f', b.sort - '0', target));
        }
        return number;
    }

    static boolean refines(List<State> process, List<State> part) {
        if (process == null || part == null) {
            return false;
        }
        boolean[][] good = new boolean[process.size()][part.size()];
        for (boolean[] row : good) {
            java.util.Arrays.fill(row, true);
        }
        for (boolean changed = true; changed;) {
            changed = false;
            for (int s = 0; s < process.size(); s++) {
                for (int t = 0; t < part.size(); t++) {
                    if (good[s][t] && !pairIsGood(process.get(s), part.get(t), good)) {
                        good[s][t] = false;
                        changed = true;
                    }
                }
            }
        }
        return good[0][0];
    }

    private static boolean pairIsGood(State s, State t, boolean[][] good) {
        if (s.mark != t.mark || s.partner != t.partner) {
            return false;
        }
        if (s.mark == '!') {
            for (Edge e : s.edges) {
                Edge f = edge(t, e.label, e.sort);
                if (f == null || !good[e.target][f.target]) {
                    return false;
                }
            }
        }
        if (s.mark == '?') {
            for (Edge f : t.edges) {
                Edge e = edge(s, f.label, f.sort);
                if (e == null || !good[e.target][f.target]) {
                    return false;
                }
            }
        }
        return true;
    }

    private static Edge edge(State s, int label, int sort) {
        for (Edge e : s.edges) {
            if (e.label == label && (sort < 0 || e.sort == sort)) {
                return e;
            }
        }
        return null;
    }

    // ---- the calls

    String text() {
        return text.toString();
    }

    int type(char c) {
        if (text.length() == 100) {
            return -1;
        }
        return text.append(c).length();
    }

    int protocol() {
        String all = text.toString();
        text.setLength(0);
        int fault = faultOf(all, false);
        if (fault >= 0) {
            return -100 - fault;
        }
        protocol = parse(all);
        types = typesIn(protocol);
        session = false;
        for (int r = 0; r < 4; r++) {
            parts[r] = partOf(protocol, (char) ('a' + r));
            partMachines.set(r, machineOf(parts[r]));
            processMachines.set(r, null);
        }
        return types;
    }

    /** The part of a role, for making processes that are near to it; null if there is none. */
    T part(char role) {
        return parts[role - 'a'];
    }

    int part(int r) {
        if (noRole(r) || protocol == null) {
            return -1;
        }
        return partMachines.get(r) == null ? 0 : partMachines.get(r).size();
    }

    int process(int r) {
        if (noRole(r) || protocol == null) {
            return -1;
        }
        String all = text.toString();
        text.setLength(0);
        int fault = faultOf(all, true);
        if (fault >= 0) {
            return -100 - fault;
        }
        List<State> machine = machineOf(parse(all));
        if (!refines(machine, partMachines.get(r))) {
            return -2;
        }
        processMachines.set(r, machine);
        session = false;
        return machine.size();
    }

    List<State> machine(int r) {
        if (noRole(r) || protocol == null) {
            return null;
        }
        return processMachines.get(r) != null ? processMachines.get(r) : partMachines.get(r);
    }

    int state(int r, int s, int what) {
        List<State> machine = machine(r);
        if (machine == null || s < 0 || s >= machine.size() || what < 0 || what > 2) {
            return -1;
        }
        State state = machine.get(s);
        return what == 0 ? "e!?".indexOf(state.mark) : what == 1 ? state.partner : state.edges.size();
    }

    int label(int r, int s, int k, int what) {
        if (k < 0 || k >= state(r, s, 2) || what < 0 || what > 2) {
            return -1;
        }
        Edge edge = machine(r).get(s).edges.get(k);
        return what == 0 ? edge.label : what == 1 ? edge.sort : edge.target;
    }

    boolean begin() {
        for (int r = 0; r < 4; r++) {
            if (machine(r) == null) {
                return false;
            }
        }
        session = true;
        java.util.Arrays.fill(at, 0);
        java.util.Arrays.fill(faults, 0);
        java.util.Arrays.fill(strange, false);
        queues.clear();
        sent = 0;
        return true;
    }

    int send(int r, int label) {
        if (!session || noRole(r) || label < 0 || label > 5) {
            return -1;
        }
        Edge edge = edge(now(r), label, -1);
        if (strange[r] || now(r).mark != '!' || edge == null) {
            return -2;
        }
        return put(r, edge);
    }

    int receive(int r) {
        if (!session || noRole(r)) {
            return -1;
        }
        return strange[r] || now(r).mark != '?' ? -2 : fetch(r);
    }

    boolean estrange(int r) {
        if (!session || noRole(r) || strange[r]) {
            return false;
        }
        strange[r] = true;
        return true;
    }

    int say(int r, int q, int label, int sort) {
        if (!session || noRole(r) || noRole(q) || r == q || label < 0 || label > 5 || sort < 0 || sort > 2
                || !strange[r]) {
            return -1;
        }
        Edge edge = edge(now(r), label, sort);
        if (now(r).mark != '!' || now(r).partner != q || edge == null) {
            faults[r]++;
            return -2;
        }
        return put(r, edge);
    }

    int take(int r, int p) {
        if (!session || noRole(r) || noRole(p) || r == p || !strange[r]) {
            return -1;
        }
        if (now(r).mark != '?' || now(r).partner != p) {
            faults[r]++;
            return -2;
        }
        int answer = fetch(r);
        if (answer == -4) {
            faults[r]++;
        }
        return answer;
    }

    int at(int r, int what) {
        if (!session || noRole(r) || what < 0 || what > 2) {
            return -1;
        }
        return what == 0 ? at[r] : what == 1 ? faults[r] : strange[r] ? 1 : 0;
    }

    int queue(int p, int q) {
        return !session || noRole(p) || noRole(q) || p == q ? -1 : letters(p, q).size();
    }

    int ready() {
        if (!session) {
            return -1;
        }
        int count = 0;
        for (int r = 0; r < 4; r++) {
            State s = now(r);
            if (s.mark == '!' && letters(r, s.partner).size() < 4) {
                count++;
            }
            if (s.mark == '?') {
                Letter first = letters(s.partner, r).peek();
                count += first != null && edge(s, first.label, first.sort) != null ? 1 : 0;
            }
        }
        return count;
    }

    int size(int what) {
        return switch (what) {
            case 0 -> text.length();
            case 1 -> types;
            case 2 -> session ? 1 : 0;
            case 3 -> session ? sent : 0;
            default -> -1;
        };
    }

    private static boolean noRole(int r) {
        return r < 0 || r > 3;
    }

    State now(int r) {
        return machine(r).get(at[r]);
    }

    private Deque<Letter> letters(int from, int to) {
        return queues.computeIfAbsent(from + ">" + to, key -> new ArrayDeque<>());
    }

    private int put(int r, Edge edge) {
        Deque<Letter> letters = letters(r, now(r).partner);
        if (letters.size() == 4) {
            return -3;
        }
        letters.add(new Letter(edge.label, edge.sort));
        sent++;
        at[r] = edge.target;
        return at[r];
    }

    private int fetch(int r) {
        Deque<Letter> letters = letters(now(r).partner, r);
        if (letters.isEmpty()) {
            return -3;
        }
        Edge edge = edge(now(r), letters.peek().label, letters.peek().sort);
        if (edge == null) {
            return -4;
        }
        letters.remove();
        at[r] = edge.target;
        return at[r];
    }
}
