import java.util.Arrays;

/**
 * A list of stars and two plates with spots of light: which spot is which star, how a plate is
 * turned and scaled, what moved and what blinks between the plates.
 *
 * Every row that a call needs is made once, with the object, and used again: no call makes an object.
 */
public final class StarPlates {
    public static final int UNKNOWN = -1, OUTSIDE = -2, STATE = -3, FULL = -4, NONE = -9, MISSING = -11, INDEX = -13, SIZE = -14, SORT = -15;
    public static final long LOST = Long.MIN_VALUE;

    /** The most stars, spots of a plate, and places of a tray. */
    private static final int MOST = 8;
    /** How many triples can be told from eight. */
    private static final int MOST_TRIPLES = 56;
    /** Euclid's steps for two longs are fewer than this. */
    private static final int MOST_STEPS = 100;

    private static final int PLATES = 2, COPIES = 2, TRAYS = 3;
    private static final int FURTHEST = 9999, FAINTEST = 999, PLATE_END = 4095, LIGHTEST = 255;

    private static final int SLACK = 0, LIMIT = 1, REACH = 2, BLINK = 3;
    private static final int[] LEAST_SETTING = {0, 0, 0, 1};
    private static final int[] GREATEST_SETTING = {50, 1000000, 10000000, 255};

    private static final int SORT_STARS = 0, SORT_SPOTS = 1, SORT_BOTH = 2;

    /** A float's parts: bits below the exponent, the exponent of 1, the exponent that is no number's. */
    private static final int LOW_BITS = 23, POWER_OF_ONE = 127, POWER_BEYOND = 255;
    private static final int HIDDEN_BIT = 1 << LOW_BITS, SIGN_BIT = 1 << 31;
    /** The ends of an int, by its bits: the library's list has no constants. */
    private static final int LEAST_INT = SIGN_BIT, GREATEST_INT = ~SIGN_BIT;

    private final Dots stars;
    private final Dots[] plates;
    private final Dots[] copies;
    private final boolean[] kept;
    private final Tray[] trays;
    private final int[] settings;

    private final Shape shape;
    private final Ballot ballot;
    /** MATCH of a plate, or what is left of it in CLEANED: whichever the call has asked for. */
    private final Pairing[] pairings;
    private final Fit fitting;
    private final Movers movers;

    public StarPlates() {
        stars = new Dots();
        plates = new Dots[] {new Dots(), new Dots()};
        copies = new Dots[] {new Dots(), new Dots()};
        kept = new boolean[COPIES];
        trays = new Tray[] {new Tray(), new Tray(), new Tray()};
        settings = new int[] {2, 100, 40000, 40};
        shape = new Shape();
        ballot = new Ballot();
        pairings = new Pairing[] {new Pairing(), new Pairing()};
        fitting = new Fit();
        movers = new Movers();
    }

    // ---- 1 stars, spots

    public int star(int x, int y, int magnitude) {
        if (!isWithin(x, -FURTHEST, FURTHEST) || !isWithin(y, -FURTHEST, FURTHEST)) return OUTSIDE;
        if (!isWithin(magnitude, 0, FAINTEST)) return OUTSIDE;
        return stars.add(x, y, magnitude);
    }

    public int unstar() {
        return stars.dropLast();
    }

    public int spot(int p, int x, int y, int light) {
        if (!isPlate(p)) return UNKNOWN;
        if (!isWithin(x, 0, PLATE_END) || !isWithin(y, 0, PLATE_END)) return OUTSIDE;
        if (!isWithin(light, 0, LIGHTEST)) return OUTSIDE;
        return plates[p].add(x, y, light);
    }

    public int unspot(int p) {
        if (!isPlate(p)) return UNKNOWN;
        return plates[p].dropLast();
    }

    public int ofStar(int s, int what) {
        if (!stars.has(s)) return UNKNOWN;
        if (!isWithin(what, 0, 2)) return OUTSIDE;
        // a place may be below 0, where the refusals are
        return what == 2 ? stars.shine[s] : stars.read(s, what) + 10000;
    }

    public int ofSpot(int p, int k, int what) {
        if (!isSpot(p, k)) return UNKNOWN;
        if (!isWithin(what, 0, 2)) return OUTSIDE;
        return plates[p].read(k, what);
    }

    public int light(int p, int k, int word) {
        if (!isSpot(p, k)) return UNKNOWN;
        int before = plates[p].shine[k];
        plates[p].shine[k] = Math.max(0, Math.min(LIGHTEST, cutWord(word, 2)));
        return before;
    }

    public int word(int v) {
        if (v == 0) return 0;
        long size = Math.abs((long) v);
        int top = highestBit(size);
        long upper = top <= LOW_BITS ? size << (LOW_BITS - top) : nearestUpper(size, top - LOW_BITS);
        // an upper part that was rounded up to a whole power of two carries into the exponent
        int bits = (int) (((long) (POWER_OF_ONE + top) << LOW_BITS) + upper - HIDDEN_BIT);
        return v < 0 ? bits | SIGN_BIT : bits;
    }

    public int number(int word) {
        return cutWord(word, 0);
    }

    public int set(int what, int v) {
        if (!isWithin(what, 0, BLINK)) return OUTSIDE;
        if (!isWithin(v, LEAST_SETTING[what], GREATEST_SETTING[what])) return OUTSIDE;
        int before = settings[what];
        settings[what] = v;
        return before;
    }

    // ---- 2 triples, votes

    public int triple(int p, int i, int j, int k, int what) {
        if (p != -1 && !isPlate(p)) return UNKNOWN;
        Dots dots = p == -1 ? stars : plates[p];
        if (!dots.has(i) || !dots.has(j) || !dots.has(k)) return UNKNOWN;
        if (i == j || j == k || i == k) return UNKNOWN;
        if (!isWithin(what, 0, 5)) return OUTSIDE;
        shape.measure(dots, i, j, k);
        if (shape.flat) return NONE;
        switch (what) {
            case 0: return shape.leastMark;
            case 1: return shape.middleMark;
            case 2: return shape.turn > 0 ? 1 : 0;
            default: return shape.corner[what - 3];
        }
    }

    public int alike(int p) {
        if (!isPlate(p)) return UNKNOWN;
        ballot.hold(stars, plates[p], settings[SLACK]);
        return ballot.pairs;
    }

    public int votes(int p, int s, int k) {
        if (!isSpot(p, k) || !stars.has(s)) return UNKNOWN;
        ballot.hold(stars, plates[p], settings[SLACK]);
        return ballot.of(s, k);
    }

    // ---- 3 matches, fits

    public int match(int p, int s, boolean cleaned) {
        if (!isPlate(p) || !stars.has(s)) return UNKNOWN;
        if (cleaned) clean(p);
        else pairUp(p);
        return pairings[p].spotOf[s];
    }

    public long fit(int p, int what, int which) {
        if (!isPlate(p) || !isWithin(what, 0, 1) || !isWithin(which, 0, 1)) return LOST;
        clean(p);
        if (!fitPairs(p)) return LOST;
        long upper = what == 0 ? fitting.a : fitting.b;
        long common = commonDivisor(Math.abs(upper), fitting.d);
        if (common < 1) return LOST;
        return (which == 0 ? upper : fitting.d) / common;
    }

    public long laid(int p, int s, int axis) {
        if (!isPlate(p) || !stars.has(s) || !isWithin(axis, 0, 1)) return LOST;
        clean(p);
        if (!fitPairs(p)) return LOST;
        return fitting.placeOf(stars.x[s], stars.y[s], axis);
    }

    public long off(int p, int s) {
        if (!isPlate(p) || !stars.has(s)) return LOST;
        clean(p);
        if (!pairings[p].holds(s) || !fitPairs(p)) return LOST;
        return missOf(p, s);
    }

    // ---- 4 ranks

    public int wrong(int p, int what) {
        if (!isPlate(p)) return UNKNOWN;
        if (!isWithin(what, 0, 1)) return OUTSIDE;
        clean(p);
        int ends = 0;
        int most = 0;
        int odd = NONE;
        for (int s = 0; s < stars.count; s++) {
            int with = wrongWith(p, s);
            ends += with;
            if (with > most) {
                most = with;
                odd = s;
            }
        }
        // each two has been met from both its ends
        return what == 0 ? ends / 2 : odd;
    }

    // ---- 5 both plates

    public int both() {
        clean(0);
        clean(1);
        int found = 0;
        for (int s = 0; s < stars.count; s++) {
            if (isInBoth(s)) found |= 1 << s;
        }
        return found;
    }

    public long carried(int k, int axis) {
        if (!plates[0].has(k) || !isWithin(axis, 0, 1)) return LOST;
        clean(0);
        clean(1);
        if (!fitPlates()) return LOST;
        return fitting.placeOf(plates[0].x[k], plates[0].y[k], axis);
    }

    public int mover(int k, int what) {
        if (!isWithin(k, -1, MOST - 1) || !isWithin(what, 0, 2)) return OUTSIDE;
        clean(0);
        clean(1);
        findMovers();
        if (k == -1) return movers.count;
        if (k >= movers.count) return NONE;
        switch (what) {
            case 0: return movers.from[k];
            case 1: return movers.to[k];
            default: return movers.square[k];
        }
    }

    public int blinks() {
        clean(0);
        clean(1);
        int found = 0;
        for (int s = 0; s < stars.count; s++) {
            if (isBlinking(s)) found |= 1 << s;
        }
        return found;
    }

    // ---- 6 copies, trays

    public int keep(int p, int copy) {
        if (!isPlate(p) || !isWithin(copy, 0, COPIES - 1)) return UNKNOWN;
        copies[copy].copyFrom(plates[p]);
        kept[copy] = true;
        return copies[copy].count;
    }

    public int restore(int p, int copy) {
        if (!isPlate(p) || !isWithin(copy, 0, COPIES - 1)) return UNKNOWN;
        if (!kept[copy]) return STATE;
        plates[p].copyFrom(copies[copy]);
        return plates[p].count;
    }

    public int tray(int t, int sort, int n) {
        if (!isWithin(t, 0, TRAYS - 1)) return UNKNOWN;
        if (!isWithin(sort, SORT_STARS, SORT_BOTH) || n > MOST) return OUTSIDE;
        if (n < 0) return SIZE;
        trays[t].renew(sort, n);
        return n;
    }

    public int lay(int t, int i, int what, int k) {
        if (!isWithin(t, 0, TRAYS - 1)) return UNKNOWN;
        if (!isWithin(what, 0, PLATES)) return OUTSIDE;
        Dots dots = what == 0 ? stars : plates[what - 1];
        if (!dots.has(k)) return UNKNOWN;
        int fault = trays[t].faultAt(i);
        if (fault != 0) return fault;
        if (!trays[t].takes(what)) return SORT;
        trays[t].held[i] = 10 * what + k;
        return 1;
    }

    public int seen(int t, int i) {
        if (!isWithin(t, 0, TRAYS - 1)) return UNKNOWN;
        int fault = trays[t].faultAt(i);
        return fault != 0 ? fault : trays[t].held[i];
    }

    public int many(int what) {
        switch (what) {
            case 0: return stars.count;
            case 1:
            case 2: return plates[what - 1].count;
            case 3:
            case 4:
                pairUp(what - 3);
                return pairings[what - 3].count;
            case 5:
            case 6:
                clean(what - 5);
                return pairings[what - 5].count;
            case 7: return traysThere();
            case 8: return copiesKept();
            default: return OUTSIDE;
        }
    }

    // ---- what is looked at ahead of an index

    private static boolean isWithin(int v, int least, int greatest) {
        return v >= least && v <= greatest;
    }

    private static boolean isPlate(int p) {
        return p >= 0 && p < PLATES;
    }

    private boolean isSpot(int p, int k) {
        return isPlate(p) && plates[p].has(k);
    }

    // ---- words of the measuring machine

    /** The number of a word times two to the extra (0 .. 2), cut; the nearest int, if it is beyond; 0 for no number. */
    private static int cutWord(int word, int extra) {
        int power = (word >>> LOW_BITS) & POWER_BEYOND;
        int low = word & (HIDDEN_BIT - 1);
        if (power == POWER_BEYOND && low != 0) return 0;
        // the numbers without the hidden bit are far below 1
        if (power == 0) return 0;
        int upper = low | HIDDEN_BIT;
        int shift = power - POWER_OF_ONE - LOW_BITS + extra;
        if (shift > 7) return word < 0 ? LEAST_INT : GREATEST_INT;
        if (shift < -LOW_BITS) return 0;
        int size = shift >= 0 ? upper << shift : upper >> -shift;
        return word < 0 ? -size : size;
    }

    private static int highestBit(long size) {
        int top = 0;
        for (int bit = 1; bit < 32; bit++) {
            if ((size >> bit) != 0) top = bit;
        }
        return top;
    }

    /** The size without its last bits (1 .. 8 of them), to the nearest; of two as near, the even one. */
    private static long nearestUpper(long size, int bits) {
        long upper = size >> bits;
        long rest = size - (upper << bits);
        long half = 1L << (bits - 1);
        boolean isUp = rest > half || (rest == half && (upper & 1) == 1);
        return isUp ? upper + 1 : upper;
    }

    // ---- matches and fits

    private void pairUp(int p) {
        ballot.hold(stars, plates[p], settings[SLACK]);
        pairings[p].fill(ballot, stars.count, plates[p].count);
    }

    private void clean(int p) {
        pairUp(p);
        for (int round = 0; round < MOST; round++) {
            if (pairings[p].count <= 2 || !fitPairs(p)) break;
            int worst = starToDrop(p);
            if (worst == NONE) break;
            pairings[p].drop(worst);
        }
    }

    private boolean fitPairs(int p) {
        fitting.start();
        for (int s = 0; s < stars.count; s++) {
            if (!pairings[p].holds(s)) continue;
            int k = pairings[p].spotOf[s];
            fitting.take(stars.x[s], stars.y[s], plates[p].x[k], plates[p].y[k]);
        }
        return fitting.solve();
    }

    /** OFF of a star that has a spot, by the fit that has been solved. */
    private long missOf(int p, int s) {
        int k = pairings[p].spotOf[s];
        long u = fitting.placeOf(stars.x[s], stars.y[s], 0) - plates[p].x[k];
        long v = fitting.placeOf(stars.x[s], stars.y[s], 1) - plates[p].y[k];
        return u * u + v * v;
    }

    private int starToDrop(int p) {
        int worst = NONE;
        long most = settings[LIMIT];
        for (int s = 0; s < stars.count; s++) {
            if (!pairings[p].holds(s)) continue;
            long miss = missOf(p, s);
            if (miss > most) {
                most = miss;
                worst = s;
            }
        }
        return worst;
    }

    private static long commonDivisor(long one, long other) {
        long a = one;
        long b = other;
        for (int step = 0; step < MOST_STEPS && b != 0; step++) {
            long rest = a % b;
            a = b;
            b = rest;
        }
        return a;
    }

    // ---- ranks

    /** How many stars make a wrong two with this one. */
    private int wrongWith(int p, int s) {
        int found = 0;
        for (int other = 0; other < stars.count; other++) {
            if (isRankedWrong(p, s, other) || isRankedWrong(p, other, s)) found++;
        }
        return found;
    }

    private boolean isRankedWrong(int p, int brighter, int fainter) {
        if (!pairings[p].holds(brighter) || !pairings[p].holds(fainter)) return false;
        if (stars.shine[brighter] >= stars.shine[fainter]) return false;
        return lightOf(p, brighter) < lightOf(p, fainter);
    }

    /** LIGHT of the spot of a star that has one. */
    private int lightOf(int p, int s) {
        return plates[p].shine[pairings[p].spotOf[s]];
    }

    // ---- both plates, once both are clean

    private boolean isInBoth(int s) {
        return pairings[0].holds(s) && pairings[1].holds(s);
    }

    private boolean isBlinking(int s) {
        if (!isInBoth(s)) return pairings[0].holds(s) || pairings[1].holds(s);
        return Math.abs(lightOf(0, s) - lightOf(1, s)) >= settings[BLINK];
    }

    private boolean fitPlates() {
        fitting.start();
        for (int s = 0; s < stars.count; s++) {
            if (!isInBoth(s)) continue;
            int here = pairings[0].spotOf[s];
            int there = pairings[1].spotOf[s];
            fitting.take(plates[0].x[here], plates[0].y[here], plates[1].x[there], plates[1].y[there]);
        }
        return fitting.solve();
    }

    private void findMovers() {
        movers.count = 0;
        if (!fitPlates()) return;
        movers.start(plates[0], fitting, pairings[0], pairings[1]);
        for (int round = 0; round < MOST; round++) {
            if (!movers.addNearest(plates[0].count, plates[1], settings[REACH])) break;
        }
    }

    // ---- copies, trays

    private int traysThere() {
        int found = 0;
        for (int t = 0; t < TRAYS; t++) {
            if (trays[t].isThere) found++;
        }
        return found;
    }

    private int copiesKept() {
        int found = 0;
        for (int copy = 0; copy < COPIES; copy++) {
            if (kept[copy]) found++;
        }
        return found;
    }

    /** Places, no two alike, with a magnitude or a light: the stars, the spots of a plate, or a copy of such. */
    private static final class Dots {
        final int[] x = new int[MOST];
        final int[] y = new int[MOST];
        final int[] shine = new int[MOST];
        int count = 0;

        boolean has(int i) {
            return i >= 0 && i < count;
        }

        int add(int atX, int atY, int howBright) {
            if (isTaken(atX, atY)) return STATE;
            if (count >= MOST) return FULL;
            x[count] = atX;
            y[count] = atY;
            shine[count] = howBright;
            count++;
            return count - 1;
        }

        int dropLast() {
            if (count <= 0) return STATE;
            count--;
            return count;
        }

        int read(int i, int what) {
            return what == 0 ? x[i] : what == 1 ? y[i] : shine[i];
        }

        void copyFrom(Dots other) {
            System.arraycopy(other.x, 0, x, 0, MOST);
            System.arraycopy(other.y, 0, y, 0, MOST);
            System.arraycopy(other.shine, 0, shine, 0, MOST);
            count = other.count;
        }

        private boolean isTaken(int atX, int atY) {
            for (int i = 0; i < count; i++) {
                if (x[i] == atX && y[i] == atY) return true;
            }
            return false;
        }
    }

    /** One triple: its corners in the order of the sides opposite them, its marks and its turn. */
    private static final class Shape {
        final int[] corner = new int[3];
        private final long[] side = new long[3];
        boolean flat;
        int leastMark;
        int middleMark;
        int turn;

        void measure(Dots dots, int i, int j, int k) {
            put(0, i, squareBetween(dots, j, k));
            put(1, j, squareBetween(dots, i, k));
            put(2, k, squareBetween(dots, i, j));
            order(0, 1);
            order(1, 2);
            order(0, 1);
            long turned = turnOf(dots);
            flat = turned == 0 || side[0] == side[1] || side[1] == side[2] || side[2] <= 0;
            if (flat) return;
            leastMark = (int) (200 * side[0] / side[2]);
            middleMark = (int) (200 * side[1] / side[2]);
            turn = turned > 0 ? 1 : -1;
        }

        private void put(int at, int which, long opposite) {
            corner[at] = which;
            side[at] = opposite;
        }

        private void order(int at, int next) {
            if (side[at] <= side[next]) return;
            int which = corner[at];
            long opposite = side[at];
            corner[at] = corner[next];
            side[at] = side[next];
            corner[next] = which;
            side[next] = opposite;
        }

        private long turnOf(Dots dots) {
            int first = corner[0];
            int second = corner[1];
            int third = corner[2];
            long left = (long) (dots.x[second] - dots.x[first]) * (dots.y[third] - dots.y[first]);
            long right = (long) (dots.y[second] - dots.y[first]) * (dots.x[third] - dots.x[first]);
            return left - right;
        }

        private static long squareBetween(Dots dots, int i, int j) {
            long x = dots.x[i] - dots.x[j];
            long y = dots.y[i] - dots.y[j];
            return x * x + y * y;
        }
    }

    /** All triples that are not flat, of the stars or of a plate. */
    private static final class Shapes {
        private final Shape shape = new Shape();
        final int[] first = new int[MOST_TRIPLES];
        final int[] second = new int[MOST_TRIPLES];
        final int[] third = new int[MOST_TRIPLES];
        final int[] leastMark = new int[MOST_TRIPLES];
        final int[] middleMark = new int[MOST_TRIPLES];
        final int[] turn = new int[MOST_TRIPLES];
        int count = 0;

        void gather(Dots dots) {
            count = 0;
            for (int i = 0; i < dots.count; i++) {
                for (int j = i + 1; j < dots.count; j++) {
                    for (int k = j + 1; k < dots.count; k++) {
                        shape.measure(dots, i, j, k);
                        append();
                    }
                }
            }
        }

        private void append() {
            if (shape.flat || count >= MOST_TRIPLES) return;
            first[count] = shape.corner[0];
            second[count] = shape.corner[1];
            third[count] = shape.corner[2];
            leastMark[count] = shape.leastMark;
            middleMark[count] = shape.middleMark;
            turn[count] = shape.turn;
            count++;
        }
    }

    /** The votes of stars and spots, by all triples that are alike. */
    private static final class Ballot {
        private final Shapes ofStars = new Shapes();
        private final Shapes ofSpots = new Shapes();
        private final int[] tally = new int[MOST * MOST];
        int pairs = 0;

        void hold(Dots stars, Dots spots, int slack) {
            ofStars.gather(stars);
            ofSpots.gather(spots);
            Arrays.fill(tally, 0);
            pairs = 0;
            for (int a = 0; a < ofStars.count; a++) {
                for (int b = 0; b < ofSpots.count; b++) {
                    if (isAlike(a, b, slack)) cast(a, b);
                }
            }
        }

        int of(int s, int k) {
            return tally[s * MOST + k];
        }

        private boolean isAlike(int a, int b, int slack) {
            return ofStars.turn[a] == ofSpots.turn[b]
                && Math.abs(ofStars.leastMark[a] - ofSpots.leastMark[b]) <= slack
                && Math.abs(ofStars.middleMark[a] - ofSpots.middleMark[b]) <= slack;
        }

        private void cast(int a, int b) {
            pairs++;
            tally[ofStars.first[a] * MOST + ofSpots.first[b]]++;
            tally[ofStars.second[a] * MOST + ofSpots.second[b]]++;
            tally[ofStars.third[a] * MOST + ofSpots.third[b]]++;
        }
    }

    /** Which spot of a plate belongs to which star. */
    private static final class Pairing {
        final int[] spotOf = new int[MOST];
        final boolean[] isTaken = new boolean[MOST];
        int count = 0;

        boolean holds(int s) {
            return spotOf[s] != NONE;
        }

        void fill(Ballot ballot, int stars, int spots) {
            for (int i = 0; i < MOST; i++) {
                spotOf[i] = NONE;
                isTaken[i] = false;
            }
            count = 0;
            for (int round = 0; round < MOST; round++) {
                if (!addBest(ballot, stars, spots)) break;
            }
        }

        void drop(int s) {
            if (!holds(s)) return;
            isTaken[spotOf[s]] = false;
            spotOf[s] = NONE;
            count--;
        }

        private boolean addBest(Ballot ballot, int stars, int spots) {
            int most = 0;
            int star = NONE;
            int spot = NONE;
            for (int s = 0; s < stars; s++) {
                for (int k = 0; k < spots; k++) {
                    if (holds(s) || isTaken[k] || ballot.of(s, k) <= most) continue;
                    most = ballot.of(s, k);
                    star = s;
                    spot = k;
                }
            }
            if (most == 0) return false;
            spotOf[star] = spot;
            isTaken[spot] = true;
            count++;
            return true;
        }
    }

    /** The best turn and scale by least squares, from places to places; its shares are a by d and b by d. */
    private static final class Fit {
        private final int[] x = new int[MOST];
        private final int[] y = new int[MOST];
        private final int[] u = new int[MOST];
        private final int[] v = new int[MOST];
        private int n = 0;
        private long sumX = 0;
        private long sumY = 0;
        private long sumU = 0;
        private long sumV = 0;
        long a = 0;
        long b = 0;
        long d = 0;

        void start() {
            n = 0;
            sumX = 0;
            sumY = 0;
            sumU = 0;
            sumV = 0;
        }

        void take(int fromX, int fromY, int toU, int toV) {
            if (n >= MOST) return;
            x[n] = fromX;
            y[n] = fromY;
            u[n] = toU;
            v[n] = toV;
            n++;
            sumX += fromX;
            sumY += fromY;
            sumU += toU;
            sumV += toV;
        }

        /** Whether there is a fit: two places at least, and they are never all one. */
        boolean solve() {
            a = 0;
            b = 0;
            d = 0;
            for (int i = 0; i < n; i++) {
                long fromX = (long) n * x[i] - sumX;
                long fromY = (long) n * y[i] - sumY;
                long toU = (long) n * u[i] - sumU;
                long toV = (long) n * v[i] - sumV;
                d += fromX * fromX + fromY * fromY;
                a += fromX * toU + fromY * toV;
                b += fromX * toV - fromY * toU;
            }
            return n >= 2 && d > 0;
        }

        /** Where a place is laid, by one axis; all above the one divisor n times d stays below 10 to the 17th. */
        long placeOf(int atX, int atY, int axis) {
            long below = n * d;
            if (below <= 0) return LOST;
            long fromX = (long) n * atX - sumX;
            long fromY = (long) n * atY - sumY;
            long above = axis == 0
                ? sumU * d + a * fromX - b * fromY
                : sumV * d + b * fromX + a * fromY;
            return Math.floorDiv(above, below);
        }
    }

    /** The spots that moved from plate 0 to plate 1, the nearest first. */
    private static final class Movers {
        final int[] from = new int[MOST];
        final int[] to = new int[MOST];
        final int[] square = new int[MOST];
        int count = 0;
        private final long[] laidU = new long[MOST];
        private final long[] laidV = new long[MOST];
        private final boolean[] isFromTaken = new boolean[MOST];
        private final boolean[] isToTaken = new boolean[MOST];

        void start(Dots here, Fit fit, Pairing cleanedHere, Pairing cleanedThere) {
            count = 0;
            for (int k = 0; k < here.count; k++) {
                laidU[k] = fit.placeOf(here.x[k], here.y[k], 0);
                laidV[k] = fit.placeOf(here.x[k], here.y[k], 1);
            }
            // a spot of a star is no stray, and so is taken ahead of all movers
            for (int k = 0; k < MOST; k++) {
                isFromTaken[k] = cleanedHere.isTaken[k];
                isToTaken[k] = cleanedThere.isTaken[k];
            }
        }

        boolean addNearest(int spotsHere, Dots there, int reach) {
            if (count >= MOST) return false;
            long least = reach + 1L;
            int here = NONE;
            int other = NONE;
            for (int i = 0; i < spotsHere; i++) {
                for (int j = 0; j < there.count; j++) {
                    if (isFromTaken[i] || isToTaken[j]) continue;
                    long apart = squareTo(i, there, j);
                    if (apart >= least) continue;
                    least = apart;
                    here = i;
                    other = j;
                }
            }
            if (here == NONE) return false;
            append(here, other, (int) least);
            return true;
        }

        private long squareTo(int i, Dots there, int j) {
            long u = laidU[i] - there.x[j];
            long v = laidV[i] - there.y[j];
            return u * u + v * v;
        }

        private void append(int here, int other, int apart) {
            from[count] = here;
            to[count] = other;
            square[count] = apart;
            count++;
            isFromTaken[here] = true;
            isToTaken[other] = true;
        }
    }

    /** A row of places for numbers of stars, of spots, or of both; it is there once it has been renewed. */
    private static final class Tray {
        final int[] held = new int[MOST];
        boolean isThere = false;
        private int sort = SORT_BOTH;
        private int size = 0;

        void renew(int newSort, int newSize) {
            Arrays.fill(held, NONE);
            isThere = true;
            sort = newSort;
            size = newSize;
        }

        /** MISSING, INDEX, or 0 where the place is there. */
        int faultAt(int i) {
            if (!isThere) return MISSING;
            return i >= 0 && i < size ? 0 : INDEX;
        }

        boolean takes(int what) {
            return sort == SORT_BOTH || sort == (what == 0 ? SORT_STARS : SORT_SPOTS);
        }
    }
}
