import java.lang.reflect.Field;
import java.lang.reflect.Method;

/**
 * Promises 10, 13 and 16 where the first letter doesn't fit. No run of calls is known that brings such a letter
 * into a queue, so the test puts it there itself.
 */
public final class MisfitTest {
    public static void main(String[] args) throws ReflectiveOperationException {
        Checks c = new Checks("a letter that doesn't fit");
        int[][] letters = {{1, 0}, {0, 1}, {2, 2}};
        for (int[] letter : letters) {
            RoleSessions x = Checks.inSession("a>b{f0:c>b{f0:e}}");
            put(x, 0, 1, letter[0], letter[1]);
            c.due("ready()", x.ready(), 2);
            c.due("receive(1)", x.receive(1), RoleSessions.MISFIT);
            c.due("no fault of one that isn't strange", x.at(1, 1), 0);
            x.estrange(1);
            c.due("take(1, 0)", x.take(1, 0), RoleSessions.MISFIT);
            c.due("a fault of a strange one", x.at(1, 1), 1);
            c.due("at(1, 0)", x.at(1, 0), 0);
            c.due("queue(0, 1)", x.queue(0, 1), 1);
        }
        RoleSessions x = Checks.inSession("a>b{f0:c>b{f0:e}}");
        put(x, 0, 1, 0, 0);
        c.due("ready() with one that fits", x.ready(), 3);
        c.due("receive(1)", x.receive(1), 1);
        c.finish();
    }

    private static void put(RoleSessions x, int from, int to, int label, int sort)
            throws ReflectiveOperationException {
        Object queues = field(field(x, "session"), "queues");
        Method add = queues.getClass().getDeclaredMethod("add", int.class, int.class, int.class, int.class);
        add.setAccessible(true);
        add.invoke(queues, from, to, label, sort);
    }

    private static Object field(Object of, String name) throws ReflectiveOperationException {
        Field field = of.getClass().getDeclaredField(name);
        field.setAccessible(true);
        return field.get(of);
    }
}
