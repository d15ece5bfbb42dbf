import java.lang.reflect.Constructor;
import java.lang.reflect.Field;
import java.lang.reflect.Method;

/**
 * Sentences that no run of calls is known to reach: a first letter that doesn't fit, and a local type without a
 * machine. The test makes both inside the object; a class that holds its state in another way has nothing to test
 * here, since the document leaves that free.
 */
public final class OutOfReachTest {
    private static final int BAD = RoleSessions.BAD;
    private static final int REFUSED = RoleSessions.REFUSED;
    private static final int MISFIT = RoleSessions.MISFIT;
    private static final int[][] LETTERS_THAT_DO_NOT_FIT = {{1, 0}, {0, 1}, {0, 2}, {5, 2}};

    public static void main(String[] args) throws ReflectiveOperationException {
        if (!holdsItsStateSo()) {
            System.out.println("out of reach: the class holds its state in another way, nothing is tested");
            return;
        }
        Checks c = new Checks("out of reach");
        misfitOfReceive(c);
        misfitOfTake(c);
        notReady(c);
        noMachine(c);
        c.finish();
    }

    private static boolean holdsItsStateSo() {
        int found = 0;
        for (Class<?> inside : RoleSessions.class.getDeclaredClasses()) {
            String name = inside.getSimpleName();
            found += name.equals("Queues") || name.equals("Builder") || name.equals("Type") ? 1 : 0;
        }
        return found == 3;
    }

    private static RoleSessions withFirstLetter(int label, int sort) throws ReflectiveOperationException {
        RoleSessions x = Checks.inSession("a>b{f0:c>b{g0:e}}");
        Object queues = field(field(x, "session"), "queues");
        Method add = queues.getClass().getDeclaredMethod("add", int.class, int.class, int.class, int.class);
        add.setAccessible(true);
        add.invoke(queues, 0, 1, label, sort);
        return x;
    }

    private static void misfitOfReceive(Checks c) throws ReflectiveOperationException {
        c.sentence("receive: MISFIT, the first letter of a queue is none that the state can take");
        for (int[] letter : LETTERS_THAT_DO_NOT_FIT) {
            RoleSessions x = withFirstLetter(letter[0], letter[1]);
            String before = Checks.lookAtAll(x);
            c.due("receive(1)", x.receive(1), MISFIT);
            c.due("receive(1) again", x.receive(1), MISFIT);
            c.due("all of it", Checks.lookAtAll(x), before);
        }
        c.due("receive(1) of one that fits", withFirstLetter(0, 0).receive(1), 1);
    }

    private static void misfitOfTake(Checks c) throws ReflectiveOperationException {
        c.sentence("take: MISFIT, a fault as well");
        for (int[] letter : LETTERS_THAT_DO_NOT_FIT) {
            RoleSessions x = withFirstLetter(letter[0], letter[1]);
            x.estrange(1);
            c.due("take(1, 0)", x.take(1, 0), MISFIT);
            c.due("at(1, 1)", x.at(1, 1), 1);
            c.due("take(1, 0) again", x.take(1, 0), MISFIT);
            c.due("at(1, 1)", x.at(1, 1), 2);
            c.due("at(1, 0)", x.at(1, 0), 0);
            c.due("queue(0, 1)", x.queue(0, 1), 1);
        }
    }

    private static void notReady(Checks c) throws ReflectiveOperationException {
        c.sentence("ready: with a first letter there that fits");
        for (int[] letter : LETTERS_THAT_DO_NOT_FIT) {
            c.due("a and c can send", withFirstLetter(letter[0], letter[1]).ready(), 2);
        }
        c.due("b can receive as well", withFirstLetter(0, 0).ready(), 3);
    }

    private static void noMachine(Checks c) throws ReflectiveOperationException {
        c.sentence("A local type has no machine if going so from a loop it comes to the loop's own variable "
                + "before any message");
        for (int round = 0; round < 3; round++) {
            RoleSessions x = Checks.withProtocol("a>b{f0:e}");
            givePart(x, 0, typeWithoutAMachine(round));
            c.due("part(0)", x.part(0), 0);
            c.due("state(0, 0, 0)", x.state(0, 0, 0), BAD);
            c.due("label(0, 0, 0, 0)", x.label(0, 0, 0, 0), BAD);
            c.due("begin()", x.begin(), false);
            c.processDue(x, 0, "b!{f0:e}", REFUSED);
            c.processDue(x, 0, "e", REFUSED);
        }
    }

    /** mX.X, mX.mY.X and b!{f0:mX.X}. */
    private static Object typeWithoutAMachine(int which) throws ReflectiveOperationException {
        Object loop = type("LOOP", 0);
        if (which == 1) {
            Object inner = type("LOOP", 1);
            setFirst(inner, type("VARIABLE", 0));
            setFirst(loop, inner);
            return loop;
        }
        setFirst(loop, type("VARIABLE", 0));
        if (which == 0) {
            return loop;
        }
        Object sending = type("SENDS", 1);
        setFirst(sending, loop);
        return sending;
    }

    private static Object type(String kind, int subject) throws ReflectiveOperationException {
        Field constant = RoleSessions.class.getDeclaredField(kind);
        constant.setAccessible(true);
        Constructor<?> make = inside("Type").getDeclaredConstructor(int.class, int.class, int.class);
        make.setAccessible(true);
        return make.newInstance(constant.getInt(null), subject, -1);
    }

    private static void setFirst(Object type, Object first) throws ReflectiveOperationException {
        Field field = type.getClass().getDeclaredField("first");
        field.setAccessible(true);
        field.set(type, first);
    }

    private static void givePart(RoleSessions x, int r, Object type) throws ReflectiveOperationException {
        Object machine = ((Object[]) field(x, "parts"))[r];
        Method build = inside("Builder").getDeclaredMethod("build", inside("Type"), inside("Machine"));
        build.setAccessible(true);
        build.invoke(field(x, "builder"), type, machine);
    }

    private static Class<?> inside(String name) throws ReflectiveOperationException {
        return Class.forName("RoleSessions$" + name);
    }

    private static Object field(Object of, String name) throws ReflectiveOperationException {
        Field field = of.getClass().getDeclaredField(name);
        field.setAccessible(true);
        return field.get(of);
    }
}
