import java.util.Random;

/** Long runs of drawn calls (the draw is fixed by its seed), each answer compared with the oracle's. */
public final class OracleTest {
    private static final int RUNS = 500, CALLS = 512;

    private final Check check;
    private final Random draw;
    private final int run;
    private final StarPlates x = new StarPlates();
    private final Oracle o = new Oracle();
    private int calls = 0;

    private OracleTest(Check check, int run) {
        this.check = check;
        this.run = run;
        draw = new Random(run);
    }

    public static void main(String[] args) {
        Check check = new Check("OracleTest");
        for (int run = 0; run < RUNS && check.wrongSoFar() < 20; run++) new OracleTest(check, run).go();
        words(check);
        check.end();
    }

    private static void words(Check check) {
        Random draw = new Random(-1);
        StarPlates x = new StarPlates();
        Oracle o = new Oracle();
        for (int i = 0; i < 200000; i++) {
            int v = draw.nextInt() >> draw.nextInt(32);
            check.due("word(" + v + ")", x.word(v), o.word(v));
            check.due("number(" + v + ")", x.number(v), o.number(v));
            int near = o.word(v) + draw.nextInt(3) - 1;
            check.due("number(" + near + ")", x.number(near), o.number(near));
        }
    }

    private void go() {
        int before = check.wrongSoFar();
        int sky = draw.nextInt(4);
        if (sky == 0) copySky(20 + draw.nextInt(300), draw.nextInt(4));
        if (sky == 1) copySky(2 + draw.nextInt(4), 0);
        if (sky == 2) wideSky(draw.nextInt(4));
        if (draw.nextInt(2) == 0) one(10, draw.nextInt(4), draw.nextInt(60));
        while (calls < CALLS && check.wrongSoFar() == before) {
            int op = draw.nextInt(29);
            // what changes stars and spots comes less often than what asks
            if ((op == 1 || op == 3 || op == 4 || op == 23) && draw.nextInt(4) > 0) continue;
            one(op, 0, 0);
        }
    }

    /** Stars, and both plates with the stars turned and scaled, put off by some noise, in a drawn order. */
    private void copySky(int wide, int noise) {
        int n = 3 + draw.nextInt(6);
        int[] xs = new int[n], ys = new int[n];
        for (int s = 0; s < n; s++) {
            xs[s] = draw.nextInt(2 * wide + 1) - wide;
            ys[s] = draw.nextInt(2 * wide + 1) - wide;
            star(xs[s], ys[s], draw.nextInt(1000));
        }
        for (int p = 0; p < 2; p++) {
            int most = Math.max(1, 1400 / wide);
            int a = draw.nextInt(2 * most + 1) - most, b = draw.nextInt(2 * most + 1) - most;
            int first = draw.nextInt(n);
            for (int i = 0; i < n; i++) {
                int s = (first + i) % n;
                int far = draw.nextInt(8) == 0 ? 60 : noise;
                int u = 2000 + a * xs[s] - b * ys[s] + draw.nextInt(far + 1);
                int v = 2000 + b * xs[s] + a * ys[s] + draw.nextInt(far + 1);
                if (draw.nextInt(8) > 0) spot(p, u, v, draw.nextInt(256));
                else spot(p, draw.nextInt(4096), draw.nextInt(4096), draw.nextInt(256));
            }
        }
    }

    /** Stars from end to end of the sky, and both plates with them made small: the greatest sums that a fit can have. */
    private void wideSky(int noise) {
        int n = 3 + draw.nextInt(6);
        int[] xs = new int[n], ys = new int[n];
        for (int s = 0; s < n; s++) {
            xs[s] = draw.nextInt(4) == 0 ? (draw.nextBoolean() ? 9999 : -9999) : draw.nextInt(19999) - 9999;
            ys[s] = draw.nextInt(4) == 0 ? (draw.nextBoolean() ? 9999 : -9999) : draw.nextInt(19999) - 9999;
            star(xs[s], ys[s], draw.nextInt(1000));
        }
        for (int p = 0; p < 2; p++) {
            // in ten thousandths; half the plate is 2047, and a place may be turned by any angle
            int a = draw.nextInt(2048) - 1024, b = draw.nextInt(2048) - 1024;
            for (int i = 0; i < n; i++) {
                int s = (i + p) % n;
                int far = draw.nextInt(8) == 0 ? 60 : noise;
                int u = 2047 + (a * xs[s] - b * ys[s]) / 10000 + draw.nextInt(far + 1);
                int v = 2047 + (b * xs[s] + a * ys[s]) / 10000 + draw.nextInt(far + 1);
                if (draw.nextInt(8) > 0) spot(p, u, v, draw.nextInt(256));
                else spot(p, draw.nextInt(4096), draw.nextInt(4096), draw.nextInt(256));
            }
        }
    }

    private void star(int a, int b, int m) {
        due("star(" + a + ", " + b + ", " + m + ")", x.star(a, b, m), o.star(a, b, m));
    }

    private void spot(int p, int a, int b, int l) {
        due("spot(" + p + ", " + a + ", " + b + ", " + l + ")", x.spot(p, a, b, l), o.spot(p, a, b, l));
    }

    private void due(String call, long got, long want) {
        calls++;
        check.due("run " + run + " call " + calls + ": " + call, got, want);
    }

    /** A number from low to high, or seldom one just or far outside. */
    private int some(int low, int high) {
        int kind = draw.nextInt(40);
        if (kind == 0) return low - 1;
        if (kind == 1) return high + 1;
        if (kind == 2) return draw.nextInt();
        if (kind == 3) return draw.nextBoolean() ? Integer.MIN_VALUE : Integer.MAX_VALUE;
        return low + draw.nextInt(high - low + 1);
    }

    private int someStar() {
        return some(0, Math.max(0, o.stars.size() - 1));
    }

    private int someSpot(int p) {
        return some(0, p == 0 || p == 1 ? Math.max(0, o.plates.get(p).size() - 1) : 7);
    }

    private int someWord() {
        int kind = draw.nextInt(4);
        if (kind == 0) return draw.nextInt();
        if (kind == 1) return Float.floatToRawIntBits(draw.nextFloat() * 70);
        if (kind == 2) return Float.floatToRawIntBits(draw.nextInt(300) / 4f) + draw.nextInt(3) - 1;
        return 0x7F800000 + draw.nextInt(3) - 1 | (draw.nextBoolean() ? Integer.MIN_VALUE : 0);
    }

    private void one(int op, int first, int second) {
        int p = some(0, 1), s = someStar(), k = someSpot(p), t = some(0, 2), w = someWord();
        int small = draw.nextInt(3) == 0 ? 9999 : 6;
        switch (op) {
            case 0: star(some(-small, small), some(-small, small), some(0, 999)); return;
            case 1: due("unstar()", x.unstar(), o.unstar()); return;
            case 2: spot(p, some(0, Math.min(4095, small * 2)), some(0, Math.min(4095, small * 2)), some(0, 255)); return;
            case 3: due("unspot(" + p + ")", x.unspot(p), o.unspot(p)); return;
            case 4: due("light(" + p + ", " + k + ", " + w + ")", x.light(p, k, w), o.light(p, k, w)); return;
            case 5: { int what = some(0, 2); due("ofStar(" + s + ", " + what + ")", x.ofStar(s, what), o.ofStar(s, what)); return; }
            case 6: { int what = some(0, 2); due("ofSpot(" + p + ", " + k + ", " + what + ")", x.ofSpot(p, k, what), o.ofSpot(p, k, what)); return; }
            case 7: due("word(" + w + ")", x.word(w), o.word(w)); return;
            case 8: due("number(" + w + ")", x.number(w), o.number(w)); return;
            case 9: setting(); return;
            case 10: due("set(" + first + ", " + second + ")", x.set(first, second), o.set(first, second)); return;
            case 11: triple(); return;
            case 12: due("alike(" + p + ")", x.alike(p), o.alike(p)); return;
            case 13: due("votes(" + p + ", " + s + ", " + k + ")", x.votes(p, s, k), o.votes(p, s, k)); return;
            case 14: { boolean c = draw.nextBoolean(); due("match(" + p + ", " + s + ", " + c + ")", x.match(p, s, c), o.match(p, s, c)); return; }
            case 15: { int what = some(0, 1), which = some(0, 1); due("fit(" + p + ", " + what + ", " + which + ")", x.fit(p, what, which), o.fit(p, what, which)); return; }
            case 16: { int axis = some(0, 1); due("laid(" + p + ", " + s + ", " + axis + ")", x.laid(p, s, axis), o.laid(p, s, axis)); return; }
            case 17: due("off(" + p + ", " + s + ")", x.off(p, s), o.off(p, s)); return;
            case 18: { int what = some(0, 1); due("wrong(" + p + ", " + what + ")", x.wrong(p, what), o.wrong(p, what)); return; }
            case 19: due("both()", x.both(), o.both()); return;
            case 20: { int of = someSpot(0), axis = some(0, 1); due("carried(" + of + ", " + axis + ")", x.carried(of, axis), o.carried(of, axis)); return; }
            case 21: { int of = some(-1, 4), what = some(0, 2); due("mover(" + of + ", " + what + ")", x.mover(of, what), o.mover(of, what)); return; }
            case 22: due("blinks()", x.blinks(), o.blinks()); return;
            case 23: { int copy = some(0, 1); due("restore(" + p + ", " + copy + ")", x.restore(p, copy), o.restore(p, copy)); return; }
            case 24: { int copy = some(0, 1); due("keep(" + p + ", " + copy + ")", x.keep(p, copy), o.keep(p, copy)); return; }
            case 25: { int sort = some(0, 2), n = some(0, 8); due("tray(" + t + ", " + sort + ", " + n + ")", x.tray(t, sort, n), o.tray(t, sort, n)); return; }
            case 26: { int i = some(0, 7), what = some(0, 2); due("lay(" + t + ", " + i + ", " + what + ", " + k + ")", x.lay(t, i, what, k), o.lay(t, i, what, k)); return; }
            case 27: { int i = some(0, 7); due("seen(" + t + ", " + i + ")", x.seen(t, i), o.seen(t, i)); return; }
            default: { int what = some(0, 8); due("many(" + what + ")", x.many(what), o.many(what)); }
        }
    }

    private void setting() {
        int what = some(0, 3);
        int high = what == 0 ? 50 : what == 1 ? 1000000 : what == 2 ? 10000000 : 255;
        int v = draw.nextInt(3) == 0 ? some(what == 3 ? 1 : 0, high) : draw.nextInt(Math.min(high, 3000) + 1);
        due("set(" + what + ", " + v + ")", x.set(what, v), o.set(what, v));
    }

    private void triple() {
        int p = some(-1, 1);
        int i = p == -1 ? someStar() : someSpot(p), j = p == -1 ? someStar() : someSpot(p), k = p == -1 ? someStar() : someSpot(p);
        int what = some(0, 5);
        due("triple(" + p + ", " + i + ", " + j + ", " + k + ", " + what + ")", x.triple(p, i, j, k, what), o.triple(p, i, j, k, what));
    }
}
