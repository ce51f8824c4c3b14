import java.lang.reflect.InvocationTargetException;
import java.lang.reflect.Method;
import java.util.Arrays;
import java.util.Comparator;
import java.util.List;

/**
 * Runs every case: a method p02_star_xTooSmall_isOUTSIDE is of promise 2, the call star. Each promise has one at
 * least, and a case that asks for nothing fails.
 */
public final class PromisesTest {
    private static final String[] CALLS = {"", "new", "star", "unstar", "spot", "unspot", "ofStar", "ofSpot", "light", "word", "number",
        "set", "triple", "alike", "votes", "match", "fit", "laid", "off", "wrong", "both", "carried", "mover", "blinks", "keep", "restore",
        "tray", "lay", "seen", "many"};
    private static final List<Class<? extends Case>> CASES = List.of(CasesOfStars.class, CasesOfSpots.class, CasesOfWords.class,
        CasesOfTriples.class, CasesOfMatches.class, CasesOfFits.class, CasesOfRanks.class, CasesOfBothPlates.class, CasesOfCopies.class,
        CasesOfTrays.class);

    private final Check check = new Check("PromisesTest");
    private final int[] casesOf = new int[CALLS.length];

    private PromisesTest() { }

    public static void main(String[] args) throws IllegalAccessException {
        PromisesTest test = new PromisesTest();
        for (Class<? extends Case> cases : CASES) test.runAll(cases);
        int all = 0;
        for (int promise = 1; promise < CALLS.length; promise++) {
            test.check.holds("promise " + promise + " has a case", test.casesOf[promise] > 0);
            all += test.casesOf[promise];
        }
        System.out.println("PromisesTest: " + all + " cases");
        test.check.end();
    }

    private void runAll(Class<? extends Case> cases) throws IllegalAccessException {
        Method[] methods = cases.getDeclaredMethods();
        Arrays.sort(methods, Comparator.comparing(Method::getName));
        for (Method method : methods) {
            if (method.getName().matches("p\\d\\d_.*")) runOne(method);
        }
    }

    private void runOne(Method method) throws IllegalAccessException {
        String name = method.getName();
        int promise = Integer.parseInt(name.substring(1, 3));
        boolean named = promise >= 1 && promise < CALLS.length && name.startsWith("_" + CALLS[promise] + "_", 3);
        check.holds(name + " names its promise and its call", named);
        if (!named) return;
        casesOf[promise]++;
        Case.begin(check, name);
        try {
            method.invoke(null);
        } catch (InvocationTargetException e) {
            check.holds(name + " threw " + e.getCause(), false);
        }
        check.holds(name + " asks for something", Case.end() > 0);
    }
}
