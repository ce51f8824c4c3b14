import java.math.BigDecimal;
import java.math.BigInteger;
import java.math.RoundingMode;
import java.util.ArrayList;
import java.util.Arrays;
import java.util.List;
import java.util.TreeMap;

/** The document once more, written with the whole Java library and with no eye on speed, to compare with. */
final class Oracle {
    static final int UNKNOWN = -1, OUTSIDE = -2, STATE = -3, FULL = -4, NONE = -9, MISSING = -11, INDEX = -13, SIZE = -14, SORT = -15;
    static final long LOST = Long.MIN_VALUE;

    record Dot(int x, int y, int shine) { }

    /** Corners in the order FIRST, SECOND, THIRD; null stands for a flat one. */
    record Triple(int[] corners, BigInteger[] marks, int turn) { }

    record Two(Dot from, Dot to) { }

    record Share(BigInteger upper, BigInteger lower) {
        Share plus(Share o) { return new Share(upper.multiply(o.lower).add(o.upper.multiply(lower)), lower.multiply(o.lower)); }
        Share minus(Share o) { return plus(o.times(of(-1))); }
        Share times(Share o) { return new Share(upper.multiply(o.upper), lower.multiply(o.lower)); }
        Share by(Share o) { return new Share(upper.multiply(o.lower), lower.multiply(o.upper)).least(); }
        Share least() {
            BigInteger g = upper.gcd(lower).multiply(BigInteger.valueOf(lower.signum()));
            return new Share(upper.divide(g), lower.divide(g));
        }
        long floor() {
            BigInteger[] parts = least().upper.divideAndRemainder(least().lower);
            return parts[0].longValueExact() - (parts[1].signum() < 0 ? 1 : 0);
        }
        static Share of(long v) { return new Share(BigInteger.valueOf(v), BigInteger.ONE); }
    }

    final class Fit {
        final List<Two> twos;
        final Share n;
        Share sx = Share.of(0), sy = Share.of(0), su = Share.of(0), sv = Share.of(0);
        final Share a, b;

        Fit(List<Two> twos) {
            this.twos = twos;
            n = Share.of(twos.size());
            for (Two t : twos) {
                sx = sx.plus(Share.of(t.from.x));
                sy = sy.plus(Share.of(t.from.y));
                su = su.plus(Share.of(t.to.x));
                sv = sv.plus(Share.of(t.to.y));
            }
            Share d = Share.of(0), up = Share.of(0), across = Share.of(0);
            for (Two t : twos) {
                Share x = n.times(Share.of(t.from.x)).minus(sx), y = n.times(Share.of(t.from.y)).minus(sy);
                Share u = n.times(Share.of(t.to.x)).minus(su), v = n.times(Share.of(t.to.y)).minus(sv);
                d = d.plus(x.times(x)).plus(y.times(y));
                up = up.plus(x.times(u)).plus(y.times(v));
                across = across.plus(x.times(v)).minus(y.times(u));
            }
            a = up.by(d);
            b = across.by(d);
        }

        long[] lay(Dot p) {
            Share x = n.times(Share.of(p.x)).minus(sx), y = n.times(Share.of(p.y)).minus(sy);
            Share u = su.plus(a.times(x)).minus(b.times(y)).by(n);
            Share v = sv.plus(b.times(x)).plus(a.times(y)).by(n);
            return new long[] {u.floor(), v.floor()};
        }

        long square(Dot from, Dot to) {
            long[] at = lay(from);
            return Math.addExact(Math.multiplyExact(at[0] - to.x, at[0] - to.x), Math.multiplyExact(at[1] - to.y, at[1] - to.y));
        }
    }

    final List<Dot> stars = new ArrayList<>();
    final List<List<Dot>> plates = new ArrayList<>(List.of(new ArrayList<>(), new ArrayList<>()));
    final List<List<Dot>> copies = new ArrayList<>(Arrays.asList(null, null));
    final int[] sorts = new int[3];
    final Integer[][] trays = new Integer[3][];
    final int[] settings = {2, 100, 40000, 40};

    private static boolean in(long v, long low, long high) { return low <= v && v <= high; }

    private static int put(List<Dot> dots, Dot dot) {
        for (Dot other : dots) if (other.x == dot.x && other.y == dot.y) return STATE;
        if (dots.size() == 8) return FULL;
        dots.add(dot);
        return dots.size() - 1;
    }

    private static int last(List<Dot> dots) {
        if (dots.isEmpty()) return STATE;
        dots.remove(dots.size() - 1);
        return dots.size();
    }

    int star(int x, int y, int m) {
        if (!in(x, -9999, 9999) || !in(y, -9999, 9999) || !in(m, 0, 999)) return OUTSIDE;
        return put(stars, new Dot(x, y, m));
    }

    int unstar() { return last(stars); }

    int spot(int p, int x, int y, int light) {
        if (!in(p, 0, 1)) return UNKNOWN;
        if (!in(x, 0, 4095) || !in(y, 0, 4095) || !in(light, 0, 255)) return OUTSIDE;
        return put(plates.get(p), new Dot(x, y, light));
    }

    int unspot(int p) { return in(p, 0, 1) ? last(plates.get(p)) : UNKNOWN; }

    int ofStar(int s, int what) {
        if (!in(s, 0, stars.size() - 1)) return UNKNOWN;
        Dot d = stars.get(s);
        return what == 0 ? d.x + 10000 : what == 1 ? d.y + 10000 : what == 2 ? d.shine : OUTSIDE;
    }

    int ofSpot(int p, int k, int what) {
        if (!in(p, 0, 1) || !in(k, 0, plates.get(p).size() - 1)) return UNKNOWN;
        Dot d = plates.get(p).get(k);
        return what == 0 ? d.x : what == 1 ? d.y : what == 2 ? d.shine : OUTSIDE;
    }

    int light(int p, int k, int word) {
        if (!in(p, 0, 1) || !in(k, 0, plates.get(p).size() - 1)) return UNKNOWN;
        Dot d = plates.get(p).get(k);
        double four = 4.0 * Float.intBitsToFloat(word);
        int shine = Double.isNaN(four) || four < 0 ? 0 : four > 255 ? 255 : (int) four;
        plates.get(p).set(k, new Dot(d.x, d.y, shine));
        return d.shine;
    }

    int word(int v) { return Float.floatToRawIntBits(new BigDecimal(v).floatValue()); }

    int number(int word) {
        float f = Float.intBitsToFloat(word);
        if (Float.isNaN(f)) return 0;
        if (Float.isInfinite(f)) return f > 0 ? Integer.MAX_VALUE : Integer.MIN_VALUE;
        BigInteger cut = new BigDecimal(f).setScale(0, RoundingMode.DOWN).toBigInteger();
        return cut.max(BigInteger.valueOf(Integer.MIN_VALUE)).min(BigInteger.valueOf(Integer.MAX_VALUE)).intValueExact();
    }

    int set(int what, int v) {
        if (!in(what, 0, 3)) return OUTSIDE;
        int[][] ranges = {{0, 50}, {0, 1000000}, {0, 10000000}, {1, 255}};
        if (!in(v, ranges[what][0], ranges[what][1])) return OUTSIDE;
        int before = settings[what];
        settings[what] = v;
        return before;
    }

    private static BigInteger side(Dot a, Dot b) {
        BigInteger x = BigInteger.valueOf(a.x - b.x), y = BigInteger.valueOf(a.y - b.y);
        return x.multiply(x).add(y.multiply(y));
    }

    private static Triple tripleOf(List<Dot> dots, int i, int j, int k) {
        TreeMap<BigInteger, Integer> opposite = new TreeMap<>();
        opposite.put(side(dots.get(j), dots.get(k)), i);
        opposite.put(side(dots.get(i), dots.get(k)), j);
        opposite.put(side(dots.get(i), dots.get(j)), k);
        if (opposite.size() < 3) return null;
        List<BigInteger> sides = new ArrayList<>(opposite.keySet());
        List<Integer> c = new ArrayList<>(opposite.values());
        Dot f = dots.get(c.get(0)), s = dots.get(c.get(1)), t = dots.get(c.get(2));
        long left = (long) (s.x - f.x) * (t.y - f.y) - (long) (s.y - f.y) * (t.x - f.x);
        if (left == 0) return null;
        BigInteger two = BigInteger.valueOf(200);
        BigInteger[] marks = {two.multiply(sides.get(0)).divide(sides.get(2)), two.multiply(sides.get(1)).divide(sides.get(2))};
        return new Triple(new int[] {c.get(0), c.get(1), c.get(2)}, marks, left > 0 ? 1 : -1);
    }

    int triple(int p, int i, int j, int k, int what) {
        if (!in(p, -1, 1)) return UNKNOWN;
        List<Dot> dots = p == -1 ? stars : plates.get(p);
        for (int c : new int[] {i, j, k}) if (!in(c, 0, dots.size() - 1)) return UNKNOWN;
        if (i == j || i == k || j == k) return UNKNOWN;
        if (!in(what, 0, 5)) return OUTSIDE;
        Triple t = tripleOf(dots, i, j, k);
        if (t == null) return NONE;
        if (what < 2) return t.marks[what].intValueExact();
        return what == 2 ? (t.turn == 1 ? 1 : 0) : t.corners[what - 3];
    }

    private static List<Triple> triples(List<Dot> dots) {
        List<Triple> all = new ArrayList<>();
        for (int i = 0; i < dots.size(); i++)
            for (int j = 0; j < i; j++)
                for (int k = 0; k < j; k++) {
                    Triple t = tripleOf(dots, i, j, k);
                    if (t != null) all.add(t);
                }
        return all;
    }

    private List<Triple[]> alikes(int p) {
        List<Triple[]> all = new ArrayList<>();
        List<Triple> ofSpots = triples(plates.get(p));
        for (Triple a : triples(stars))
            for (Triple b : ofSpots) {
                boolean near = a.turn == b.turn;
                for (int m = 0; m < 2; m++) near &= a.marks[m].subtract(b.marks[m]).abs().intValueExact() <= settings[0];
                if (near) all.add(new Triple[] {a, b});
            }
        return all;
    }

    int alike(int p) { return in(p, 0, 1) ? alikes(p).size() : UNKNOWN; }

    private int[][] voting(int p) {
        int[][] table = new int[8][8];
        for (Triple[] two : alikes(p)) for (int c = 0; c < 3; c++) table[two[0].corners[c]][two[1].corners[c]]++;
        return table;
    }

    int votes(int p, int s, int k) {
        if (!in(p, 0, 1) || !in(s, 0, stars.size() - 1) || !in(k, 0, plates.get(p).size() - 1)) return UNKNOWN;
        return voting(p)[s][k];
    }

    /** From stars to spots: sorting all twos once gives what choosing one after another does. */
    private TreeMap<Integer, Integer> matching(int p) {
        int[][] table = voting(p);
        List<int[]> twos = new ArrayList<>();
        for (int s = 0; s < 8; s++) for (int k = 0; k < 8; k++) if (table[s][k] > 0) twos.add(new int[] {-table[s][k], s, k});
        twos.sort(Arrays::compare);
        TreeMap<Integer, Integer> match = new TreeMap<>();
        for (int[] two : twos) if (!match.containsKey(two[1]) && !match.containsValue(two[2])) match.put(two[1], two[2]);
        return match;
    }

    private Fit fitOf(int p, TreeMap<Integer, Integer> match) {
        List<Two> twos = new ArrayList<>();
        match.forEach((s, k) -> twos.add(new Two(stars.get(s), plates.get(p).get(k))));
        return new Fit(twos);
    }

    private TreeMap<Integer, Integer> cleaning(int p) {
        TreeMap<Integer, Integer> match = matching(p);
        while (match.size() > 2) {
            Fit fit = fitOf(p, match);
            int worst = -1;
            long most = -1;
            for (int s : match.keySet()) {
                long off = fit.square(stars.get(s), plates.get(p).get(match.get(s)));
                if (off > most) { most = off; worst = s; }
            }
            if (most <= settings[1]) break;
            match.remove(worst);
        }
        return match;
    }

    int match(int p, int s, boolean cleaned) {
        if (!in(p, 0, 1) || !in(s, 0, stars.size() - 1)) return UNKNOWN;
        return (cleaned ? cleaning(p) : matching(p)).getOrDefault(s, NONE);
    }

    long fit(int p, int what, int which) {
        if (!in(p, 0, 1) || !in(what, 0, 1) || !in(which, 0, 1)) return LOST;
        TreeMap<Integer, Integer> match = cleaning(p);
        if (match.size() < 2) return LOST;
        Fit fit = fitOf(p, match);
        Share share = what == 0 ? fit.a : fit.b;
        return (which == 0 ? share.upper : share.lower).longValueExact();
    }

    long laid(int p, int s, int axis) {
        if (!in(p, 0, 1) || !in(s, 0, stars.size() - 1) || !in(axis, 0, 1)) return LOST;
        TreeMap<Integer, Integer> match = cleaning(p);
        return match.size() < 2 ? LOST : fitOf(p, match).lay(stars.get(s))[axis];
    }

    long off(int p, int s) {
        if (!in(p, 0, 1) || !in(s, 0, stars.size() - 1)) return LOST;
        TreeMap<Integer, Integer> match = cleaning(p);
        if (match.size() < 2 || !match.containsKey(s)) return LOST;
        return fitOf(p, match).square(stars.get(s), plates.get(p).get(match.get(s)));
    }

    int wrong(int p, int what) {
        if (!in(p, 0, 1)) return UNKNOWN;
        if (!in(what, 0, 1)) return OUTSIDE;
        TreeMap<Integer, Integer> match = cleaning(p);
        int total = 0;
        int[] in = new int[8];
        for (int s : match.keySet())
            for (int t : match.keySet()) {
                boolean magnitudeLess = stars.get(s).shine < stars.get(t).shine;
                boolean lightLess = plates.get(p).get(match.get(s)).shine < plates.get(p).get(match.get(t)).shine;
                if (magnitudeLess && lightLess) { total++; in[s]++; in[t]++; }
            }
        if (what == 0) return total;
        int odd = NONE;
        for (int s = 7; s >= 0; s--) if (in[s] > 0 && (odd == NONE || in[s] >= in[odd])) odd = s;
        return odd;
    }

    int both() {
        int set = 0;
        TreeMap<Integer, Integer> other = cleaning(1);
        for (int s : cleaning(0).keySet()) if (other.containsKey(s)) set += 1 << s;
        return set;
    }

    private Fit between() {
        List<Two> twos = new ArrayList<>();
        TreeMap<Integer, Integer> here = cleaning(0), there = cleaning(1);
        int inBoth = both();
        for (int s = 0; s < 8; s++) if ((inBoth >> s & 1) == 1) twos.add(new Two(plates.get(0).get(here.get(s)), plates.get(1).get(there.get(s))));
        return twos.size() < 2 ? null : new Fit(twos);
    }

    long carried(int k, int axis) {
        if (!in(k, 0, plates.get(0).size() - 1) || !in(axis, 0, 1)) return LOST;
        Fit fit = between();
        return fit == null ? LOST : fit.lay(plates.get(0).get(k))[axis];
    }

    private List<long[]> moving() {
        List<long[]> twos = new ArrayList<>(), chosen = new ArrayList<>();
        Fit fit = between();
        if (fit == null) return chosen;
        TreeMap<Integer, Integer> here = cleaning(0), there = cleaning(1);
        for (int i = 0; i < plates.get(0).size(); i++)
            for (int j = 0; j < plates.get(1).size(); j++) {
                if (here.containsValue(i) || there.containsValue(j)) continue;
                long square = fit.square(plates.get(0).get(i), plates.get(1).get(j));
                if (square <= settings[2]) twos.add(new long[] {square, i, j});
            }
        twos.sort(Arrays::compare);
        for (long[] two : twos) if (chosen.stream().noneMatch(c -> c[1] == two[1] || c[2] == two[2])) chosen.add(two);
        return chosen;
    }

    int mover(int k, int what) {
        if (!in(k, -1, 7) || !in(what, 0, 2)) return OUTSIDE;
        List<long[]> all = moving();
        if (k == -1) return all.size();
        return k < all.size() ? (int) all.get(k)[(what + 1) % 3] : NONE;
    }

    int blinks() {
        int set = 0;
        TreeMap<Integer, Integer> here = cleaning(0), there = cleaning(1);
        for (int s = 0; s < stars.size(); s++) {
            boolean a = here.containsKey(s), b = there.containsKey(s);
            if (a != b) set += 1 << s;
            if (a && b) {
                int differ = plates.get(0).get(here.get(s)).shine - plates.get(1).get(there.get(s)).shine;
                if (differ >= settings[3] || -differ >= settings[3]) set += 1 << s;
            }
        }
        return set;
    }

    int keep(int p, int copy) {
        if (!in(p, 0, 1) || !in(copy, 0, 1)) return UNKNOWN;
        copies.set(copy, List.copyOf(plates.get(p)));
        return plates.get(p).size();
    }

    int restore(int p, int copy) {
        if (!in(p, 0, 1) || !in(copy, 0, 1)) return UNKNOWN;
        if (copies.get(copy) == null) return STATE;
        plates.set(p, new ArrayList<>(copies.get(copy)));
        return plates.get(p).size();
    }

    int tray(int t, int sort, int n) {
        if (!in(t, 0, 2)) return UNKNOWN;
        if (!in(sort, 0, 2) || n > 8) return OUTSIDE;
        if (n < 0) return SIZE;
        trays[t] = new Integer[n];
        sorts[t] = sort;
        return n;
    }

    int lay(int t, int i, int what, int k) {
        if (!in(t, 0, 2)) return UNKNOWN;
        if (!in(what, 0, 2)) return OUTSIDE;
        if (!in(k, 0, (what == 0 ? stars : plates.get(what - 1)).size() - 1)) return UNKNOWN;
        if (trays[t] == null) return MISSING;
        if (!in(i, 0, trays[t].length - 1)) return INDEX;
        if (sorts[t] == 0 && what != 0 || sorts[t] == 1 && what == 0) return SORT;
        trays[t][i] = 10 * what + k;
        return 1;
    }

    int seen(int t, int i) {
        if (!in(t, 0, 2)) return UNKNOWN;
        if (trays[t] == null) return MISSING;
        if (!in(i, 0, trays[t].length - 1)) return INDEX;
        return trays[t][i] == null ? NONE : trays[t][i];
    }

    int many(int what) {
        return switch (what) {
            case 0 -> stars.size();
            case 1, 2 -> plates.get(what - 1).size();
            case 3, 4 -> matching(what - 3).size();
            case 5, 6 -> cleaning(what - 5).size();
            case 7 -> (int) Arrays.stream(trays).filter(t -> t != null).count();
            case 8 -> (int) copies.stream().filter(c -> c != null).count();
            default -> OUTSIDE;
        };
    }
}
