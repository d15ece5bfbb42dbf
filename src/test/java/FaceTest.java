import java.lang.reflect.Constructor;
import java.lang.reflect.Field;
import java.lang.reflect.Method;
import java.lang.reflect.Modifier;
import java.util.Set;
import java.util.TreeSet;

/** The class has the face of the document and no more that can be seen from outside. */
public final class FaceTest {
    private static final Set<String> FACE = Set.of(
            "static final int BAD", "static final int REFUSED", "static final int WAIT", "static final int MISFIT",
            "RoleSessions()", "int type(char)", "int protocol()", "int part(int)", "int process(int)",
            "int state(int,int,int)", "int label(int,int,int,int)", "boolean begin()", "int send(int,int)",
            "int receive(int)", "boolean estrange(int)", "int say(int,int,int,int)", "int take(int,int)",
            "int at(int,int)", "int queue(int,int)", "int ready()", "int size(int)");

    public static void main(String[] args) {
        Set<String> seen = new TreeSet<>();
        for (Field f : RoleSessions.class.getDeclaredFields()) {
            add(seen, f.getModifiers(), f.getType().getSimpleName() + " " + f.getName());
        }
        for (Constructor<?> made : RoleSessions.class.getDeclaredConstructors()) {
            add(seen, made.getModifiers(), "RoleSessions" + list(made.getParameterTypes()));
        }
        for (Method m : RoleSessions.class.getDeclaredMethods()) {
            add(seen, m.getModifiers(), m.getReturnType().getSimpleName() + " " + m.getName()
                    + list(m.getParameterTypes()));
        }
        int kind = RoleSessions.class.getModifiers();
        boolean right = seen.equals(FACE) && Modifier.isPublic(kind) && Modifier.isFinal(kind);
        System.out.println("the face: " + (right ? "as the document says" : "is " + seen));
        if (!right) {
            System.exit(1);
        }
    }

    private static void add(Set<String> seen, int modifiers, String what) {
        if (!Modifier.isPrivate(modifiers)) {
            String told = Modifier.toString(modifiers) + " " + what;
            seen.add(told.startsWith("public ") ? told.substring("public ".length()) : told);
        }
    }

    private static String list(Class<?>[] types) {
        StringBuilder all = new StringBuilder("(");
        for (Class<?> type : types) {
            all.append(all.length() == 1 ? "" : ",").append(type.getSimpleName());
        }
        return all.append(')').toString();
    }
}
