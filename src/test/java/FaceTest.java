import java.lang.reflect.Constructor;
import java.lang.reflect.Field;
import java.lang.reflect.InvocationTargetException;
import java.lang.reflect.Method;
import java.lang.reflect.Modifier;
import java.util.Arrays;
import java.util.Random;
import java.util.Set;
import java.util.TreeSet;

/** The public face of the document, no more and no less; and no call throws, whatever its arguments. */
public final class FaceTest {
    private static final Check CHECK = new Check("FaceTest");

    private static final Set<String> METHODS = new TreeSet<>(Arrays.asList(
        "int star(int, int, int)", "int unstar()", "int spot(int, int, int, int)", "int unspot(int)", "int ofStar(int, int)",
        "int ofSpot(int, int, int)", "int light(int, int, int)", "int word(int)", "int number(int)", "int set(int, int)",
        "int triple(int, int, int, int, int)", "int alike(int)", "int votes(int, int, int)", "int match(int, int, boolean)",
        "long fit(int, int, int)", "long laid(int, int, int)", "long off(int, int)", "int wrong(int, int)", "int both()",
        "long carried(int, int)", "int mover(int, int)", "int blinks()", "int keep(int, int)", "int restore(int, int)",
        "int tray(int, int, int)", "int lay(int, int, int, int)", "int seen(int, int)", "int many(int)"));

    private static final String[] CONSTANTS = {"UNKNOWN", "OUTSIDE", "STATE", "FULL", "NONE", "MISSING", "INDEX", "SIZE", "SORT", "LOST"};
    private static final long[] VALUES = {-1, -2, -3, -4, -9, -11, -13, -14, -15, Long.MIN_VALUE};

    private FaceTest() { }

    public static void main(String[] args) throws IllegalAccessException {
        methods();
        constants();
        wildCalls();
        CHECK.end();
    }

    private static void methods() {
        CHECK.holds("the class is public and final", StarPlates.class.getModifiers() == (Modifier.PUBLIC | Modifier.FINAL));
        Set<String> found = new TreeSet<>();
        Set<String> names = new TreeSet<>();
        for (Method m : StarPlates.class.getDeclaredMethods()) {
            if (Modifier.isPrivate(m.getModifiers())) continue;
            CHECK.holds(m + " is public and of the object", m.getModifiers() == Modifier.PUBLIC);
            found.add(signature(m));
            names.add(m.getName());
        }
        CHECK.holds("the methods are those of the document: " + found, found.equals(METHODS));
        privateNames(StarPlates.class, names);
        for (Class<?> inside : StarPlates.class.getDeclaredClasses()) {
            CHECK.holds(inside + " is static and not public", Modifier.isStatic(inside.getModifiers())
                && !Modifier.isPublic(inside.getModifiers()) && !Modifier.isProtected(inside.getModifiers()));
            CHECK.holds(inside + " has some twenty fields at most", inside.getDeclaredFields().length <= 20);
            privateNames(inside, names);
        }
        CHECK.holds("some twelve classes", StarPlates.class.getDeclaredClasses().length <= 11);
        Constructor<?>[] made = StarPlates.class.getDeclaredConstructors();
        CHECK.holds("one public constructor without arguments",
            made.length == 1 && made[0].getModifiers() == Modifier.PUBLIC && made[0].getParameterCount() == 0);
    }

    private static void privateNames(Class<?> of, Set<String> names) {
        for (Method m : of.getDeclaredMethods()) {
            CHECK.holds(m + " takes seven parameters at most", m.getParameterCount() <= 7);
            if (Modifier.isPublic(m.getModifiers())) continue;
            CHECK.holds(m + " bears no public name", !names.contains(m.getName()));
        }
    }

    private static String signature(Method m) {
        String[] types = Arrays.stream(m.getParameterTypes()).map(Class::getName).toArray(String[]::new);
        return m.getReturnType().getName() + " " + m.getName() + "(" + String.join(", ", types) + ")";
    }

    private static void constants() throws IllegalAccessException {
        for (int i = 0; i < CONSTANTS.length; i++) {
            for (Field f : StarPlates.class.getFields()) {
                if (!f.getName().equals(CONSTANTS[i])) continue;
                CHECK.due(CONSTANTS[i], f.getLong(null), VALUES[i]);
                CHECK.holds(CONSTANTS[i] + " has its type", f.getType() == (CONSTANTS[i].equals("LOST") ? long.class : int.class));
            }
        }
        CHECK.due("public constants", StarPlates.class.getFields().length, CONSTANTS.length);
        for (Field f : StarPlates.class.getDeclaredFields()) {
            int m = f.getModifiers();
            CHECK.holds(f + " is final", Modifier.isFinal(m));
            CHECK.holds(f + " is public and static, or private", Modifier.isPrivate(m) || (Modifier.isPublic(m) && Modifier.isStatic(m)));
        }
    }

    /** Calls with numbers near every edge, on objects that get fuller. */
    private static void wildCalls() throws IllegalAccessException {
        Random draw = new Random(7);
        Method[] face = Arrays.stream(StarPlates.class.getDeclaredMethods())
            .filter(m -> Modifier.isPublic(m.getModifiers())).sorted((a, b) -> a.getName().compareTo(b.getName())).toArray(Method[]::new);
        for (int run = 0; run < 100; run++) {
            StarPlates x = new StarPlates();
            for (int call = 0; call < 512; call++) wildCall(x, face[draw.nextInt(face.length)], draw);
        }
    }

    private static void wildCall(StarPlates x, Method m, Random draw) throws IllegalAccessException {
        Object[] with = new Object[m.getParameterCount()];
        for (int i = 0; i < with.length; i++) {
            if (m.getParameterTypes()[i] == boolean.class) with[i] = draw.nextBoolean();
            else with[i] = wildNumber(draw);
        }
        try {
            m.invoke(x, with);
        } catch (InvocationTargetException e) {
            CHECK.holds(m.getName() + Arrays.toString(with) + " threw " + e.getCause(), false);
        }
    }

    private static int wildNumber(Random draw) {
        int kind = draw.nextInt(12);
        if (kind == 0) return draw.nextInt();
        if (kind == 1) return Integer.MAX_VALUE - draw.nextInt(3);
        if (kind == 2) return Integer.MIN_VALUE + draw.nextInt(3);
        if (kind == 3) return draw.nextInt(21) - 10;
        return draw.nextInt(kind < 8 ? 2 : 9);
    }
}
