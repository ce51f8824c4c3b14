import java.util.ArrayList;
import java.util.List;
import java.util.function.Consumer;

/** What all cases have in common: the document's numbers, and how answers are compared with what is due. */
abstract class Case {
    static final int UNKNOWN = -1, OUTSIDE = -2, STATE = -3, FULL = -4, NONE = -9, MISSING = -11, INDEX = -13, SIZE = -14, SORT = -15;
    static final long LOST = Long.MIN_VALUE;

    /** Beyond every bound of the document; but cut to 8 or 16 bits they are -2, -1, 0, 1. */
    static final int[] WILD = {Integer.MIN_VALUE, Integer.MIN_VALUE + 1, -(1 << 16), 1 << 24, Integer.MAX_VALUE - 1, Integer.MAX_VALUE};

    private static final int CHANGES = 27;

    private static Check check;
    private static String name;
    private static int asked;

    /** What a case asks of an object, answer by answer. */
    interface Ask {
        void of(StarPlates x, List<Long> answers);
    }

    static void begin(Check counter, String caseName) {
        check = counter;
        name = caseName;
        asked = 0;
    }

    /** How many answers the case has asked for. */
    static int end() {
        return asked;
    }

    static void due(long got, long want) {
        asked++;
        if (got == want) check.due(name, got, want);
        else check.due(name + " (" + caller() + ")", got, want);
    }

    private static String caller() {
        for (StackTraceElement at : new Throwable().getStackTrace()) {
            if (!at.getClassName().equals("Case")) return at.getFileName() + ":" + at.getLineNumber();
        }
        return "?";
    }

    private static void same(List<Long> got, List<Long> want) {
        due(got.size(), want.size());
        for (int i = 0; i < Math.min(got.size(), want.size()); i++) due(got.get(i), want.get(i));
    }

    /** A refused call changes nothing: an object that got it and one that did not answer alike in all. */
    static void changesNothing(Consumer<StarPlates> refused) {
        StarPlates touched = Skies.rich();
        refused.accept(touched);
        same(all(touched), all(Skies.rich()));
    }

    /** As changesNothing, where there is no room for more stars and spots. */
    static void changesNothingOfFull(Consumer<StarPlates> refused) {
        StarPlates touched = Skies.richAndFull();
        refused.accept(touched);
        same(all(touched), all(Skies.richAndFull()));
    }

    /** All that an object holds; it is spent by the asking. */
    private static List<Long> all(StarPlates x) {
        List<Long> answers = new ArrayList<>();
        for (int what = 0; what < 9; what++) answers.add((long) x.many(what));
        for (int s = 0; s < 8; s++) for (int what = 0; what < 3; what++) answers.add((long) x.ofStar(s, what));
        for (int p = 0; p < 2; p++) spotsOf(x, p, answers);
        for (int t = 0; t < 3; t++) for (int i = 0; i < 9; i++) answers.add((long) x.seen(t, i));
        for (int t = 0; t < 3; t++) for (int what = 0; what < 3; what++) answers.add((long) x.lay(t, 0, what, 0));
        for (int what = 0; what < 4; what++) answers.add((long) x.set(what, 1));
        for (int copy = 0; copy < 2; copy++) {
            answers.add((long) x.restore(0, copy));
            spotsOf(x, 0, answers);
        }
        return answers;
    }

    private static void spotsOf(StarPlates x, int p, List<Long> answers) {
        for (int k = 0; k < 8; k++) for (int what = 0; what < 3; what++) answers.add((long) x.ofSpot(p, k, what));
    }

    /**
     * What is told is by how all is when it is asked: an object that is asked after each change answers like one
     * that is asked for the first time; and the changes do change the answers.
     */
    static void isByHowAllIs(Ask ask) {
        StarPlates often = start();
        List<Long> first = answers(ask, often);
        boolean changes = false;
        for (int n = 1; n <= CHANGES; n++) {
            change(often, n - 1);
            StarPlates once = start();
            for (int i = 0; i < n; i++) change(once, i);
            List<Long> got = answers(ask, often);
            same(got, answers(ask, once));
            changes |= !got.equals(first);
        }
        due(changes ? 1 : 0, 1);
    }

    private static List<Long> answers(Ask ask, StarPlates x) {
        List<Long> answers = new ArrayList<>();
        ask.of(x, answers);
        return answers;
    }

    private static StarPlates start() {
        StarPlates x = Skies.skewed();
        for (int k = 0; k < 5; k++) x.spot(1, x.ofSpot(0, k, 0) - 40, x.ofSpot(0, k, 1) + 7, 10 * k);
        return x;
    }

    /** Each kind of change, and such as give a star its spot or take it away; the spots at (2210, 1957) and (2250, 1950) are those of star 5. */
    private static void change(StarPlates x, int which) {
        switch (which) {
            case 0: x.set(0, 2); return;
            case 1: x.set(0, 30); return;
            case 2: x.set(1, 1000000); return;
            case 3: x.set(1, 100); return;
            case 4: x.light(0, 3, x.word(60)); return;
            case 5: x.light(1, 3, x.word(0)); return;
            case 6: x.spot(1, 2210, 1957, 50); return;
            case 7: x.spot(0, 3000, 3000, 5); return;
            case 8: x.spot(1, 3000, 3100, 5); return;
            case 9: x.set(2, 100); return;
            case 10: x.set(2, 1000000); return;
            case 11: x.set(3, 255); return;
            case 12: x.keep(0, 1); return;
            case 13: x.unspot(0); return;
            case 14: x.unspot(0); return;
            case 15: x.restore(0, 1); return;
            case 16: x.unspot(0); return;
            case 17: x.unspot(0); return;
            case 18: x.spot(0, 2250, 1950, 150); return;
            case 19: x.star(500, 500, 3); return;
            case 20: x.unstar(); return;
            case 21: x.unstar(); return;
            case 22: x.star(95, -75, 20); return;
            case 23: x.unspot(0); return;
            case 24: x.restore(1, 1); return;
            case 25: x.tray(1, 1, 1); return;
            default: x.unspot(1);
        }
    }
}
