import java.lang.reflect.Constructor;
import java.lang.reflect.Field;
import java.lang.reflect.Method;
import java.lang.reflect.Modifier;
import java.util.Set;
import java.util.TreeSet;

/** The class has the document's face and no other member that can be seen. */
public final class FaceTest {
    private static final Check CHECK = new Check();
    private static final Set<String> METHODS = Set.of(
        "made 1", "rest 1", "of 2", "around 2", "turned 2", "trapped 2", "wide 1", "read 2", "keeps 2", "moved 3",
        "move 2", "drop 1", "told 2", "freed 2", "open 1", "sure 2", "weak 1", "chosen 3", "image 1", "restore 1",
        "count 1");
    private static final Set<String> CONSTANTS = Set.of(
        "UNKNOWN -1", "OUTSIDE -2", "STATE -3", "FULL -4", "NO -5", "NONE -6");

    public static void main(String[] args) throws IllegalAccessException {
        Class<?> type = TripleTrap.class;
        CHECK.holds("public final", Modifier.isPublic(type.getModifiers()) && Modifier.isFinal(type.getModifiers()));
        methods(type);
        constants(type);
        constructors(type);
        insides(type);
        CHECK.end();
    }

    private static void methods(Class<?> type) {
        Set<String> seen = new TreeSet<>();
        Set<String> hidden = new TreeSet<>();
        for (Method m : type.getDeclaredMethods()) {
            if (Modifier.isPrivate(m.getModifiers())) {
                hidden.add(m.getName());
                continue;
            }
            seen.add(m.getName() + " " + m.getParameterCount());
            boolean plain = m.getReturnType() == int.class && m.getModifiers() == Modifier.PUBLIC;
            for (Class<?> p : m.getParameterTypes()) {
                plain &= p == int.class;
            }
            CHECK.holds("the form of " + m, plain);
        }
        CHECK.holds("methods " + seen, seen.equals(METHODS));
        for (Class<?> inside : type.getDeclaredClasses()) {
            for (Method m : inside.getDeclaredMethods()) {
                hidden.add(m.getName());
            }
        }
        for (String name : METHODS) {
            CHECK.holds("a hidden method bears the name " + name, !hidden.contains(name.substring(0, name.indexOf(' '))));
        }
    }

    private static void constants(Class<?> type) throws IllegalAccessException {
        Set<String> seen = new TreeSet<>();
        for (Field f : type.getDeclaredFields()) {
            int form = f.getModifiers();
            if (Modifier.isStatic(form)) {
                CHECK.holds("final: " + f, Modifier.isFinal(form));
            }
            if (!Modifier.isPrivate(form)) {
                CHECK.holds("public static int: " + f,
                    Modifier.isPublic(form) && Modifier.isStatic(form) && f.getType() == int.class);
                seen.add(f.getName() + " " + f.getInt(null));
            }
        }
        CHECK.holds("constants " + seen, seen.equals(CONSTANTS));
    }

    private static void constructors(Class<?> type) {
        Constructor<?>[] all = type.getDeclaredConstructors();
        CHECK.holds("one public constructor without parameters",
            all.length == 1 && Modifier.isPublic(all[0].getModifiers()) && all[0].getParameterCount() == 0);
    }

    private static void insides(Class<?> type) {
        for (Class<?> inside : type.getDeclaredClasses()) {
            int form = inside.getModifiers();
            CHECK.holds("static and not open: " + inside,
                Modifier.isStatic(form) && !Modifier.isPublic(form) && !Modifier.isProtected(form));
            for (Field f : inside.getDeclaredFields()) {
                CHECK.holds("no static state: " + f, !Modifier.isStatic(f.getModifiers()));
            }
        }
    }
}
