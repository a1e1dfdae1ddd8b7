import java.lang.reflect.Constructor;
import java.lang.reflect.Field;
import java.lang.reflect.Member;
import java.lang.reflect.Method;
import java.lang.reflect.Modifier;
import java.util.TreeSet;

/** The public face: each member of the document, and no other that is not private. */
public final class FaceTest {
    private static final String OUTSIDE = "IndexOutOfBoundsException";
    private static final String ARGUMENT = "IllegalArgumentException";
    private static final String STATE = "IllegalStateException";
    private static final String[] METHODS = {
        "int tower(int int) " + OUTSIDE + " " + ARGUMENT + " " + STATE,
        "int spot(int) " + OUTSIDE + " " + STATE,
        "int wind(int int) " + ARGUMENT,
        "int gust(int int) " + ARGUMENT,
        "int close(int int int int int) " + OUTSIDE + " " + ARGUMENT + " " + STATE,
        "void open(int) " + OUTSIDE + " " + STATE,
        "int machine(int int int) " + OUTSIDE + " " + ARGUMENT + " " + STATE,
        "int move(int int) " + ARGUMENT + " " + STATE,
        "int clear()",
        "int takes(int) " + OUTSIDE,
        "int file(int int int) " + OUTSIDE + " " + ARGUMENT + " " + STATE,
        "int why()",
        "void withdraw(int) " + OUTSIDE + " " + STATE,
        "int tick(int) " + ARGUMENT + " " + STATE,
        "int lose(int) " + OUTSIDE + " " + STATE,
        "int hold(int int) " + OUTSIDE + " " + ARGUMENT + " " + STATE,
        "int time()",
        "int alerts()",
        "int home(int) " + OUTSIDE,
        "int placeAt(int int) " + OUTSIDE,
        "boolean meets(int int) " + OUTSIDE,
        "boolean meetsAnew(int int) " + OUTSIDE,
        "int ofMachine(int int) " + OUTSIDE + " " + ARGUMENT,
        "int ofPath(int int) " + OUTSIDE + " " + ARGUMENT,
        "int count(int) " + ARGUMENT};
    private static final String[] CONSTANTS = {"NONE -1", "PARKED 0", "FLIES 1", "LOST 2", "DOWN 3", "WAITS 0", "ENDED 2",
        "WITHDRAWN 3", "BROKEN 4", "BUSY 1", "FULL 2", "WAY 3", "BATTERY 4", "ROOM 5", "MEETS 6"};

    public static void main(String[] args) throws IllegalAccessException {
        Due due = new Due();
        due.is("modifiers of the class", SkyLanes.class.getModifiers(), Modifier.PUBLIC | Modifier.FINAL);
        due.same("methods", methods().toString(), sorted(METHODS).toString());
        due.same("constants", constants().toString(), sorted(CONSTANTS).toString());
        due.is("constructors", SkyLanes.class.getDeclaredConstructors().length, 1);
        for (Constructor<?> c : SkyLanes.class.getDeclaredConstructors()) {
            due.is("a public constructor", Modifier.isPublic(c.getModifiers()), true);
            due.is("parameters of the constructor", c.getParameterCount(), 0);
        }
        TreeSet<String> names = new TreeSet<>();
        for (Method m : SkyLanes.class.getDeclaredMethods()) {
            if (Modifier.isPublic(m.getModifiers())) names.add(m.getName());
        }
        for (Method m : SkyLanes.class.getDeclaredMethods()) {
            if (isOwn(m)) continue;
            due.is(m + " bears the name of a public one", names.contains(m.getName()), false);
        }
        for (Class<?> inside : SkyLanes.class.getDeclaredClasses()) {
            due.is(inside + " is not public", Modifier.isPublic(inside.getModifiers()), false);
            for (Method m : inside.getDeclaredMethods()) {
                due.is(m + " bears the name of a public one", names.contains(m.getName()), false);
            }
        }
        due.end();
    }

    private static TreeSet<String> sorted(String[] texts) {
        return new TreeSet<>(java.util.Arrays.asList(texts));
    }

    private static boolean isOwn(Member m) {
        return !Modifier.isPrivate(m.getModifiers());
    }

    private static TreeSet<String> methods() {
        TreeSet<String> found = new TreeSet<>();
        for (Method m : SkyLanes.class.getDeclaredMethods()) {
            if (!isOwn(m)) continue;
            StringBuilder text = new StringBuilder();
            text.append(Modifier.isPublic(m.getModifiers()) && !Modifier.isStatic(m.getModifiers()) ? "" : "not public ");
            text.append(m.getReturnType()).append(' ').append(m.getName()).append('(');
            for (Class<?> p : m.getParameterTypes()) {
                text.append(text.charAt(text.length() - 1) == '(' ? "" : " ").append(p);
            }
            text.append(')');
            for (Class<?> e : m.getExceptionTypes()) {
                text.append(' ').append(e.getSimpleName());
            }
            found.add(text.toString());
        }
        return found;
    }

    private static TreeSet<String> constants() throws IllegalAccessException {
        TreeSet<String> found = new TreeSet<>();
        for (Field f : SkyLanes.class.getDeclaredFields()) {
            if (!isOwn(f)) continue;
            boolean good = f.getModifiers() == (Modifier.PUBLIC | Modifier.STATIC | Modifier.FINAL) && f.getType() == int.class;
            found.add(f.getName() + (good ? " " + f.getInt(null) : " is no public constant"));
        }
        return found;
    }
}
