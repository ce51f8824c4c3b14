/** Each promise of the document by hand: ordinary inputs, the edges it names, wrong inputs. */
public final class PromisesTest {
    private static final long LOST = Long.MIN_VALUE;
    private static final int[][] SKY = {{0, 0, 100}, {120, 10, 300}, {30, 90, 50}, {-80, 60, 700}, {-50, -110, 400}, {90, -70, 200}};
    private static final int[] LIGHTS = {200, 100, 220, 20, 60, 150};

    private static final Check CHECK = new Check("PromisesTest");
    private static int promise;

    private PromisesTest() { }

    public static void main(String[] args) {
        newObject();
        star();
        unstar();
        spot();
        unspot();
        ofStar();
        ofSpot();
        light();
        word();
        number();
        set();
        triple();
        alike();
        votes();
        match();
        matchTies();
        cleaned();
        fit();
        laid();
        off();
        wrong();
        both();
        carried();
        mover();
        moverTies();
        moverOfDropped();
        blinks();
        keep();
        restore();
        tray();
        lay();
        seen();
        many();
        fullSky();
        CHECK.end();
    }

    private static void due(String call, long got, long want) {
        CHECK.due("promise " + promise + ": " + call, got, want);
    }

    /** Three stars with sides of 300, 400, 500, and three spots of plate 0 with sides of 3, 4, 5. */
    private static StarPlates three(int atX, int atY) {
        StarPlates x = new StarPlates();
        x.star(0, 0, 100);
        x.star(300, 0, 200);
        x.star(0, 400, 300);
        x.spot(0, atX, atY, 90);
        x.spot(0, atX + 3, atY, 80);
        x.spot(0, atX, atY + 4, 70);
        return x;
    }

    /** Six stars; plate 0 has them as they are, plate 1 turned by a right angle. */
    private static StarPlates six() {
        StarPlates x = new StarPlates();
        for (int s = 0; s < 6; s++) {
            x.star(SKY[s][0], SKY[s][1], SKY[s][2]);
            x.spot(0, 2000 + SKY[s][0], 2000 + SKY[s][1], LIGHTS[s]);
            x.spot(1, 2000 - SKY[s][1], 1000 + SKY[s][0], LIGHTS[s]);
        }
        return x;
    }

    /** Six stars; plate 0 has them doubled and turned, spot 1 lies 30 off; SLACK is 30. */
    private static StarPlates skewed() {
        StarPlates x = new StarPlates();
        for (int s = 0; s < 6; s++) x.star(SKY[s][0], SKY[s][1], SKY[s][2]);
        for (int s = 0; s < 6; s++) {
            int u = 2000 + 2 * SKY[s][0] - SKY[s][1], v = 2000 + SKY[s][0] + 2 * SKY[s][1];
            x.spot(0, s == 1 ? u + 30 : u, v, LIGHTS[s]);
        }
        x.set(0, 30);
        return x;
    }

    private static void newObject() {
        promise = 1;
        StarPlates x = new StarPlates();
        for (int what = 0; what <= 8; what++) due("many(" + what + ")", x.many(what), 0);
        due("ofStar(0, 0)", x.ofStar(0, 0), -1);
        due("ofSpot(0, 0, 0)", x.ofSpot(0, 0, 0), -1);
        due("ofSpot(1, 0, 0)", x.ofSpot(1, 0, 0), -1);
        due("restore(0, 0)", x.restore(0, 0), -3);
        due("restore(0, 1)", x.restore(0, 1), -3);
        for (int t = 0; t < 3; t++) due("seen(" + t + ", 0)", x.seen(t, 0), -11);
        due("set(0, 0)", x.set(0, 0), 2);
        due("set(1, 0)", x.set(1, 0), 100);
        due("set(2, 0)", x.set(2, 0), 40000);
        due("set(3, 1)", x.set(3, 1), 40);
        due("another object's many(0)", three(0, 0).many(0) - new StarPlates().many(0), 3);
    }

    private static void star() {
        promise = 2;
        StarPlates x = new StarPlates();
        due("star(-10000, 0, 0)", x.star(-10000, 0, 0), -2);
        due("star(10000, 0, 0)", x.star(10000, 0, 0), -2);
        due("star(0, -10000, 0)", x.star(0, -10000, 0), -2);
        due("star(0, 10000, 0)", x.star(0, 10000, 0), -2);
        due("star(0, 0, -1)", x.star(0, 0, -1), -2);
        due("star(0, 0, 1000)", x.star(0, 0, 1000), -2);
        due("star(min, max, min)", x.star(Integer.MIN_VALUE, Integer.MAX_VALUE, Integer.MIN_VALUE), -2);
        due("many(0)", x.many(0), 0);
        due("star(-9999, -9999, 0)", x.star(-9999, -9999, 0), 0);
        due("star(9999, 9999, 999)", x.star(9999, 9999, 999), 1);
        due("star(-9999, 9999, 5)", x.star(-9999, 9999, 5), 2);
        due("star(9999, 9999, 1) again", x.star(9999, 9999, 1), -3);
        due("star(-9999, -9999, 1) again", x.star(-9999, -9999, 1), -3);
        due("star(9999, 9999, 1000): OUTSIDE ahead of STATE", x.star(9999, 9999, 1000), -2);
        for (int s = 3; s < 8; s++) due("star " + s, x.star(s, 0, 0), s);
        due("a ninth", x.star(0, 0, 0), -4);
        due("a ninth at a star's place: STATE ahead of FULL", x.star(3, 0, 0), -3);
        due("a ninth outside", x.star(0, 10000, 0), -2);
        due("many(0)", x.many(0), 8);
        due("magnitude of 1 is as it was", x.ofStar(1, 2), 999);
    }

    private static void unstar() {
        promise = 3;
        StarPlates x = new StarPlates();
        due("unstar() of none", x.unstar(), -3);
        x.star(1, 1, 1);
        x.star(2, 2, 2);
        due("unstar()", x.unstar(), 1);
        due("the last one is gone", x.ofStar(1, 0), -1);
        due("the first one stays", x.ofStar(0, 0), 10001);
        due("its place is free", x.star(2, 2, 9), 1);
        due("with its new magnitude", x.ofStar(1, 2), 9);
        due("unstar()", x.unstar(), 1);
        due("unstar()", x.unstar(), 0);
        due("unstar()", x.unstar(), -3);
        due("many(0)", x.many(0), 0);
    }

    private static void spot() {
        promise = 4;
        StarPlates x = new StarPlates();
        due("spot(-1, ..)", x.spot(-1, 0, 0, 0), -1);
        due("spot(2, ..)", x.spot(2, 0, 0, 0), -1);
        due("spot(2, -1, ..): UNKNOWN ahead of OUTSIDE", x.spot(2, -1, 0, 0), -1);
        due("spot(0, -1, 0, 0)", x.spot(0, -1, 0, 0), -2);
        due("spot(0, 4096, 0, 0)", x.spot(0, 4096, 0, 0), -2);
        due("spot(0, 0, -1, 0)", x.spot(0, 0, -1, 0), -2);
        due("spot(0, 0, 4096, 0)", x.spot(0, 0, 4096, 0), -2);
        due("spot(0, 0, 0, -1)", x.spot(0, 0, 0, -1), -2);
        due("spot(0, 0, 0, 256)", x.spot(0, 0, 0, 256), -2);
        due("spot(0, 0, 0, 0)", x.spot(0, 0, 0, 0), 0);
        due("spot(0, 4095, 4095, 255)", x.spot(0, 4095, 4095, 255), 1);
        due("the same place of the other plate", x.spot(1, 4095, 4095, 255), 0);
        due("the same place of that plate", x.spot(0, 4095, 4095, 1), -3);
        due("the same place, but outside", x.spot(0, 4095, 4095, 256), -2);
        for (int k = 2; k < 8; k++) due("spot " + k, x.spot(0, k, 1, 0), k);
        due("a ninth", x.spot(0, 100, 100, 0), -4);
        due("a ninth at a spot's place", x.spot(0, 2, 1, 0), -3);
        due("the other plate has room", x.spot(1, 100, 100, 0), 1);
        due("many(1)", x.many(1), 8);
        due("many(2)", x.many(2), 2);
    }

    private static void unspot() {
        promise = 5;
        StarPlates x = new StarPlates();
        due("unspot(-1)", x.unspot(-1), -1);
        due("unspot(2)", x.unspot(2), -1);
        due("unspot(0)", x.unspot(0), -3);
        x.spot(0, 1, 1, 1);
        x.spot(0, 2, 2, 2);
        due("unspot(1)", x.unspot(1), -3);
        due("unspot(0)", x.unspot(0), 1);
        due("the last one is gone", x.ofSpot(0, 1, 0), -1);
        due("the first one stays", x.ofSpot(0, 0, 0), 1);
        due("its place is free", x.spot(0, 2, 2, 7), 1);
        due("unspot(0)", x.unspot(0), 1);
        due("unspot(0)", x.unspot(0), 0);
        due("unspot(0)", x.unspot(0), -3);
    }

    private static void ofStar() {
        promise = 6;
        StarPlates x = new StarPlates();
        x.star(-9999, 9999, 999);
        x.star(7, -8, 0);
        due("x of 0", x.ofStar(0, 0), 1);
        due("y of 0", x.ofStar(0, 1), 19999);
        due("magnitude of 0", x.ofStar(0, 2), 999);
        due("x of 1", x.ofStar(1, 0), 10007);
        due("y of 1", x.ofStar(1, 1), 9992);
        due("magnitude of 1", x.ofStar(1, 2), 0);
        due("ofStar(0, 3)", x.ofStar(0, 3), -2);
        due("ofStar(0, -1)", x.ofStar(0, -1), -2);
        due("ofStar(2, 0)", x.ofStar(2, 0), -1);
        due("ofStar(-1, 0)", x.ofStar(-1, 0), -1);
        due("ofStar(2, 3): UNKNOWN ahead of OUTSIDE", x.ofStar(2, 3), -1);
    }

    private static void ofSpot() {
        promise = 7;
        StarPlates x = new StarPlates();
        x.spot(0, 10, 20, 30);
        x.spot(1, 4095, 0, 255);
        for (int what = 0; what < 3; what++) due("ofSpot(0, 0, " + what + ")", x.ofSpot(0, 0, what), 10 * (what + 1));
        due("x on plate 1", x.ofSpot(1, 0, 0), 4095);
        due("y on plate 1", x.ofSpot(1, 0, 1), 0);
        due("light on plate 1", x.ofSpot(1, 0, 2), 255);
        due("ofSpot(-1, 0, 0)", x.ofSpot(-1, 0, 0), -1);
        due("ofSpot(2, 0, 0)", x.ofSpot(2, 0, 0), -1);
        due("ofSpot(0, 1, 0)", x.ofSpot(0, 1, 0), -1);
        due("ofSpot(0, -1, 0)", x.ofSpot(0, -1, 0), -1);
        due("ofSpot(0, 0, 3)", x.ofSpot(0, 0, 3), -2);
        due("ofSpot(0, 0, -1)", x.ofSpot(0, 0, -1), -2);
        due("ofSpot(0, 1, 3): UNKNOWN ahead of OUTSIDE", x.ofSpot(0, 1, 3), -1);
    }

    private static void light() {
        promise = 8;
        StarPlates x = new StarPlates();
        x.spot(1, 5, 5, 77);
        due("light(2, 0, 0)", x.light(2, 0, 0), -1);
        due("light(0, 0, 0)", x.light(0, 0, 0), -1);
        due("light(1, 1, 0)", x.light(1, 1, 0), -1);
        due("light(1, -1, 0)", x.light(1, -1, 0), -1);
        due("as it was", x.ofSpot(1, 0, 2), 77);
        float[] numbers = {0f, 1f, 0.25f, 0.2499999f, 0.5f, 10.3f, 63.5f, 63.75f, 63.99f, 64f, 1e30f, -0.25f, -70f,
            Float.POSITIVE_INFINITY, Float.NEGATIVE_INFINITY, Float.NaN, Float.MIN_VALUE, Float.MAX_VALUE, -0f};
        int[] lights = {0, 4, 1, 0, 2, 41, 254, 255, 255, 255, 255, 0, 0, 255, 0, 0, 0, 255, 0};
        int before = 77;
        for (int i = 0; i < numbers.length; i++) {
            due("light of " + numbers[i], x.light(1, 0, Float.floatToRawIntBits(numbers[i])), before);
            due("then", x.ofSpot(1, 0, 2), lights[i]);
            before = lights[i];
        }
        due("a number that is none, with its sign", x.light(1, 0, 0xFF800001), 0);
        due("then", x.ofSpot(1, 0, 2), 0);
    }

    private static void word() {
        promise = 9;
        StarPlates x = new StarPlates();
        int[] vs = {0, 1, -1, 2, 3, 255, 16777215, 16777216, 16777217, 16777218, 16777219, -16777219, 33554433, 33554434, 33554435,
            33554437, 33554438, 2147483583, 2147483584, 2147483585, Integer.MAX_VALUE, Integer.MIN_VALUE, Integer.MIN_VALUE + 1, 123456789};
        for (int v : vs) due("word(" + v + ")", x.word(v), Float.floatToRawIntBits((float) v));
        due("as near to 2^24 as to 2^24 + 2", x.word(16777217), 1266679808);
        due("as near to 2^24 + 2 as to 2^24 + 4", x.word(16777219), 1266679810);
        due("rounded up to 2^31", x.word(Integer.MAX_VALUE), 0x4F000000);
    }

    private static void number() {
        promise = 10;
        StarPlates x = new StarPlates();
        float[] fs = {0f, -0f, 1f, -1f, 0.999999f, -0.999999f, 1.5f, -2.5f, 8388607.5f, -8388607.5f, 16777216f, 2147483520f,
            2147483648f, -2147483648f, -2147483904f, 1e20f, -1e20f, Float.POSITIVE_INFINITY, Float.NEGATIVE_INFINITY, Float.NaN,
            Float.MIN_VALUE, -Float.MIN_VALUE, Float.MIN_NORMAL, Float.MAX_VALUE};
        for (float f : fs) due("number of " + f, x.number(Float.floatToRawIntBits(f)), (int) f);
        due("beyond an int", x.number(0x4F000000), Integer.MAX_VALUE);
        due("below an int", x.number(0xCF000001), Integer.MIN_VALUE);
        due("no number", x.number(0x7F800001), 0);
        due("no number, with its sign", x.number(-1), 0);
        for (int v = -300; v <= 300; v++) due("number(word(" + v + "))", x.number(x.word(v)), v);
    }

    private static void set() {
        promise = 11;
        StarPlates x = new StarPlates();
        int[] least = {0, 0, 0, 1}, greatest = {50, 1000000, 10000000, 255}, first = {2, 100, 40000, 40};
        for (int what = 0; what < 4; what++) {
            due("set(" + what + ", too little)", x.set(what, least[what] - 1), -2);
            due("set(" + what + ", too much)", x.set(what, greatest[what] + 1), -2);
            due("set(" + what + ", least)", x.set(what, least[what]), first[what]);
            due("set(" + what + ", greatest)", x.set(what, greatest[what]), least[what]);
            due("set(" + what + ", min)", x.set(what, Integer.MIN_VALUE), -2);
            due("set(" + what + ", first)", x.set(what, first[what]), greatest[what]);
        }
        due("set(-1, 1)", x.set(-1, 1), -2);
        due("set(4, 1)", x.set(4, 1), -2);
    }

    private static void triple() {
        promise = 12;
        StarPlates x = three(1000, 1000);
        int[] want = {72, 128, 0, 2, 1, 0};
        int[][] orders = {{0, 1, 2}, {2, 1, 0}, {1, 0, 2}, {1, 2, 0}, {2, 0, 1}, {0, 2, 1}};
        for (int[] o : orders) {
            for (int what = 0; what < 6; what++) {
                due("of stars, " + what, x.triple(-1, o[0], o[1], o[2], what), want[what]);
                due("of spots, " + what, x.triple(0, o[0], o[1], o[2], what), want[what]);
            }
        }
        x.star(-300, 0, 1);
        due("the turn of its mirror", x.triple(-1, 0, 3, 2, 2), 1);
        due("two sides alike: FLAT", x.triple(-1, 1, 2, 3, 0), -9);
        x.star(100, 0, 1);
        x.star(-100, 0, 1);
        due("the greater two alike: FLAT", x.triple(-1, 2, 4, 5, 1), -9);
        for (int what = 0; what < 6; what++) due("on one line: FLAT, " + what, x.triple(-1, 0, 1, 4, what), -9);
        due("FLAT, but what is outside", x.triple(-1, 0, 1, 4, 6), -2);
        due("what -1", x.triple(-1, 0, 1, 2, -1), -2);
        due("what 6", x.triple(0, 0, 1, 2, 6), -2);
        due("plate -2", x.triple(-2, 0, 1, 2, 0), -1);
        due("plate 2", x.triple(2, 0, 1, 2, 0), -1);
        due("no spots", x.triple(1, 0, 1, 2, 0), -1);
        due("no such star", x.triple(-1, 0, 1, 6, 0), -1);
        due("no such star", x.triple(-1, -1, 1, 2, 0), -1);
        due("no such spot", x.triple(0, 0, 3, 2, 0), -1);
        due("two are one", x.triple(-1, 0, 0, 2, 0), -1);
        due("two are one", x.triple(-1, 0, 2, 2, 0), -1);
        due("two are one", x.triple(-1, 2, 1, 2, 0), -1);
        due("two are one, UNKNOWN ahead of OUTSIDE", x.triple(0, 2, 1, 2, 9), -1);
        StarPlates wide = new StarPlates();
        wide.star(-9999, -9999, 0);
        wide.star(9999, 9999, 0);
        wide.star(-9999, 9998, 0);
        due("200 * 19997^2 / (2 * 19998^2) is below 100", wide.triple(-1, 0, 1, 2, 0), 99);
        due("200 * (19998^2 + 1) / (2 * 19998^2), cut", wide.triple(-1, 0, 1, 2, 1), 100);
        due("its first is opposite the least", wide.triple(-1, 0, 1, 2, 3), 1);
    }

    private static void alike() {
        promise = 13;
        StarPlates x = new StarPlates();
        due("alike(-1)", x.alike(-1), -1);
        due("alike(2)", x.alike(2), -1);
        due("alike(0) of nothing", x.alike(0), 0);
        x = three(1000, 1000);
        due("alike(0)", x.alike(0), 1);
        due("alike(1)", x.alike(1), 0);
        // marks of the stars are 72, 128, those of these spots 74, 125
        x.spot(1, 0, 0, 0);
        x.spot(1, 300, 0, 0);
        x.spot(1, 0, 390, 0);
        due("first mark of plate 1", x.triple(1, 0, 1, 2, 0), 74);
        due("second mark of plate 1", x.triple(1, 0, 1, 2, 1), 125);
        due("the second differs by 3, SLACK is 2", x.alike(1), 0);
        x.set(0, 3);
        due("SLACK is 3", x.alike(1), 1);
        due("how it is when it is asked: plate 0", x.alike(0), 1);
        x.set(0, 50);
        x.unspot(1);
        due("two spots make none", x.alike(1), 0);
        x.spot(1, 0, 410, 0);
        x.unspot(0);
        due("plate 0 has two spots left", x.alike(0), 0);
        StarPlates mirror = new StarPlates();
        mirror.star(0, 0, 0);
        mirror.star(-300, 0, 0);
        mirror.star(0, 400, 0);
        mirror.spot(0, 0, 0, 0);
        mirror.spot(0, 300, 0, 0);
        mirror.spot(0, 0, 400, 0);
        due("turned the other way", mirror.alike(0), 0);
        firstMark();
    }

    /** The first marks alone keep these two from being alike: 72 and 77, by 128 both. */
    private static void firstMark() {
        StarPlates x = new StarPlates();
        x.star(0, 0, 0);
        x.star(300, 0, 0);
        x.star(0, 400, 0);
        x.spot(0, 0, 0, 0);
        x.spot(0, 310, 10, 0);
        x.spot(0, 0, 400, 0);
        due("first mark of the spots", x.triple(0, 0, 1, 2, 0), 77);
        due("second mark of the spots", x.triple(0, 0, 1, 2, 1), 128);
        x.set(0, 4);
        due("the first differs by 5, SLACK is 4", x.alike(0), 0);
        x.set(0, 5);
        due("SLACK is 5", x.alike(0), 1);
    }

    private static void votes() {
        promise = 14;
        StarPlates x = three(1000, 1000);
        for (int s = 0; s < 3; s++) for (int k = 0; k < 3; k++) due("votes(0, " + s + ", " + k + ")", x.votes(0, s, k), s == k ? 1 : 0);
        due("votes(2, 0, 0)", x.votes(2, 0, 0), -1);
        due("votes(-1, 0, 0)", x.votes(-1, 0, 0), -1);
        due("votes(1, 0, 0)", x.votes(1, 0, 0), -1);
        due("votes(0, 3, 0)", x.votes(0, 3, 0), -1);
        due("votes(0, -1, 0)", x.votes(0, -1, 0), -1);
        due("votes(0, 0, 3)", x.votes(0, 0, 3), -1);
        due("votes(0, 0, -1)", x.votes(0, 0, -1), -1);
        x.unspot(0);
        due("no votes without a third spot", x.votes(0, 0, 0), 0);
        StarPlates y = six();
        for (int s = 0; s < 6; s++) due("all triples of star " + s + " that are not flat", y.votes(1, s, s), y.votes(0, s, s));
    }

    private static void match() {
        promise = 15;
        StarPlates x = three(1000, 1000);
        for (int s = 0; s < 3; s++) due("match(0, " + s + ", false)", x.match(0, s, false), s);
        due("match(0, 1, true)", x.match(0, 1, true), 1);
        due("match(1, 1, true)", x.match(1, 1, true), -9);
        due("match(1, 1, false)", x.match(1, 1, false), -9);
        due("match(2, 0, false)", x.match(2, 0, false), -1);
        due("match(-1, 0, false)", x.match(-1, 0, false), -1);
        due("match(0, 3, false)", x.match(0, 3, false), -1);
        due("match(0, -1, true)", x.match(0, -1, true), -1);
        x.star(5000, 77, 1);
        due("a star that has no spot", x.match(0, 3, false), -9);
        StarPlates y = new StarPlates();
        for (int s = 0; s < 6; s++) y.star(SKY[s][0], SKY[s][1], SKY[s][2]);
        for (int k = 0; k < 6; k++) y.spot(1, 2000 + SKY[(k + 2) % 6][0], 2000 + SKY[(k + 2) % 6][1], 9);
        for (int s = 0; s < 6; s++) due("spots in another order, star " + s, y.match(1, s, true), (s + 4) % 6);
    }

    private static void matchTies() {
        promise = 15;
        StarPlates x = three(0, 0);
        // a second, greater triple of spots, alike too, far off
        x.spot(0, 3000, 3000, 0);
        x.spot(0, 3300, 3000, 0);
        x.spot(0, 3000, 3400, 0);
        for (int s = 0; s < 3; s++) {
            due("as many votes", x.votes(0, s, s), x.votes(0, s, s + 3));
            due("the least spot", x.match(0, s, false), s);
        }
        StarPlates y = new StarPlates();
        int[][] places = {{3000, 3000}, {3300, 3000}, {3000, 3400}, {0, 0}, {3, 0}, {0, 4}};
        for (int[] at : places) y.star(at[0], at[1], 0);
        y.spot(0, 100, 100, 0);
        y.spot(0, 400, 100, 0);
        y.spot(0, 100, 500, 0);
        for (int s = 0; s < 3; s++) {
            due("as many votes", y.votes(0, s, s), y.votes(0, s + 3, s));
            due("the least star", y.match(0, s, false), s);
            due("the other has none", y.match(0, s + 3, false), -9);
        }
    }

    private static void cleaned() {
        promise = 15;
        StarPlates x = skewed();
        due("in MATCH", x.match(0, 1, false), 1);
        due("dropped from CLEANED", x.match(0, 1, true), -9);
        due("the others stay", x.match(0, 5, true), 5);
        due("set(1, 1000000)", x.set(1, 1000000), 100);
        due("off(0, 1), with all of them", x.off(0, 1), 400);
        x.set(1, 400);
        due("as far off as LIMIT: it stays", x.match(0, 1, true), 1);
        x.set(1, 399);
        due("above LIMIT", x.match(0, 1, true), -9);
        due("MATCH has it still", x.match(0, 1, false), 1);
        x.unspot(0);
        x.unspot(0);
        x.set(1, 0);
        due("four twos of MATCH", x.many(3), 4);
        due("star 4 with what was star 1's", x.match(0, 4, false), 1);
        due("two are left, however far", x.many(5), 2);
        due("the one that was off most", x.match(0, 0, true), -9);
        due("then, of the three left", x.match(0, 3, true), -9);
        due("what is left", x.match(0, 2, true), 2);
        due("what is left", x.match(0, 4, true), 1);
        due("two twos are laid where they are", x.off(0, 2), 0);
    }

    private static void share(StarPlates x, int p, int what, long upper, long lower) {
        due("fit(" + p + ", " + what + ", 0)", x.fit(p, what, 0), upper);
        due("fit(" + p + ", " + what + ", 1)", x.fit(p, what, 1), lower);
    }

    private static void fit() {
        promise = 16;
        StarPlates x = three(1000, 1000);
        share(x, 0, 0, 1, 100);
        share(x, 0, 1, 0, 1);
        due("fit(2, 0, 0)", x.fit(2, 0, 0), LOST);
        due("fit(-1, 0, 0)", x.fit(-1, 0, 0), LOST);
        due("fit(0, 2, 0)", x.fit(0, 2, 0), LOST);
        due("fit(0, -1, 0)", x.fit(0, -1, 0), LOST);
        due("fit(0, 0, 2)", x.fit(0, 0, 2), LOST);
        due("fit(0, 0, -1)", x.fit(0, 0, -1), LOST);
        due("fit(1, 0, 0) of no twos", x.fit(1, 0, 0), LOST);
        StarPlates y = six();
        share(y, 0, 0, 1, 1);
        share(y, 0, 1, 0, 1);
        share(y, 1, 0, 0, 1);
        share(y, 1, 1, 1, 1);
        StarPlates back = new StarPlates();
        for (int s = 0; s < 6; s++) {
            back.star(2 * SKY[s][0], 2 * SKY[s][1], 0);
            back.spot(0, 2000 - 3 * SKY[s][0], 2000 - 3 * SKY[s][1], 0);
            back.spot(1, 2000 + 5 * SKY[s][1], 2000 - 5 * SKY[s][0], 0);
        }
        share(back, 0, 0, -3, 2);
        share(back, 0, 1, 0, 1);
        share(back, 1, 0, 0, 1);
        share(back, 1, 1, -5, 2);
        StarPlates z = skewed();
        share(z, 0, 0, 2, 1);
        share(z, 0, 1, 1, 1);
        z.set(1, 1000000);
        share(z, 0, 0, 7265, 3541);
        share(z, 0, 1, 3517, 3541);
    }

    private static void laid() {
        promise = 17;
        StarPlates x = three(0, 0);
        due("u of star 1", x.laid(0, 1, 0), 3);
        due("v of star 1", x.laid(0, 1, 1), 0);
        due("v of star 2", x.laid(0, 2, 1), 4);
        x.star(-50, -150, 0);
        due("a star in no two", x.match(0, 3, true), -9);
        due("-1/2 comes to -1", x.laid(0, 3, 0), -1);
        due("-3/2 comes to -2", x.laid(0, 3, 1), -2);
        x.unstar();
        x.star(-100, 199, 0);
        due("-1", x.laid(0, 3, 0), -1);
        due("1.99 comes to 1", x.laid(0, 3, 1), 1);
        due("laid(2, 0, 0)", x.laid(2, 0, 0), LOST);
        due("laid(0, 4, 0)", x.laid(0, 4, 0), LOST);
        due("laid(0, -1, 0)", x.laid(0, -1, 0), LOST);
        due("laid(0, 0, 2)", x.laid(0, 0, 2), LOST);
        due("laid(0, 0, -1)", x.laid(0, 0, -1), LOST);
        due("laid(1, 0, 0) of no twos", x.laid(1, 0, 0), LOST);
        StarPlates y = six();
        for (int s = 0; s < 6; s++) {
            due("u on plate 1", y.laid(1, s, 0), 2000 - SKY[s][1]);
            due("v on plate 1", y.laid(1, s, 1), 1000 + SKY[s][0]);
        }
        StarPlates z = skewed();
        due("where the dropped star should lie", z.laid(0, 1, 0), 2230);
        due("where the dropped star should lie", z.laid(0, 1, 1), 2140);
    }

    private static void off() {
        promise = 18;
        StarPlates x = six();
        for (int s = 0; s < 6; s++) due("off(1, " + s + ")", x.off(1, s), 0);
        due("off(2, 0)", x.off(2, 0), LOST);
        due("off(0, 6)", x.off(0, 6), LOST);
        due("off(0, -1)", x.off(0, -1), LOST);
        due("off(0, 0) of no twos", new StarPlates().off(0, 0), LOST);
        StarPlates y = skewed();
        due("of a dropped one", y.off(0, 1), LOST);
        due("of another", y.off(0, 0), 0);
        y.set(1, 1000000);
        long[] want = {16, 400, 52, 9, 36, 80};
        for (int s = 0; s < 6; s++) due("off(0, " + s + "), with all of them", y.off(0, s), want[s]);
    }

    private static void wrong() {
        promise = 19;
        StarPlates x = six();
        due("wrong(2, 0)", x.wrong(2, 0), -1);
        due("wrong(-1, 2): UNKNOWN ahead of OUTSIDE", x.wrong(-1, 2), -1);
        due("wrong(0, 2)", x.wrong(0, 2), -2);
        due("wrong(0, -1)", x.wrong(0, -1), -2);
        due("none", x.wrong(0, 0), 0);
        due("none", x.wrong(0, 1), -9);
        // star 3 is the faintest; its spot is the lightest now
        x.light(0, 3, x.word(60));
        due("star 3 with five others, 220 is below 240", x.wrong(0, 0), 5);
        due("star 3", x.wrong(0, 1), 3);
        due("plate 1 is as it was", x.wrong(1, 0), 0);
        x.light(0, 3, x.word(25));
        due("as light as star 1: none with it; star 4 is 60", x.wrong(0, 0), 1);
        due("of several the least", x.wrong(0, 1), 3);
        x.light(0, 3, x.word(5));
        x.light(0, 2, x.word(50));
        due("star 2 is the brightest, light 200 as star 0", x.wrong(0, 0), 0);
        x.light(0, 2, Float.floatToRawIntBits(49.75f));
        due("light 199, star 0 has 200", x.wrong(0, 0), 1);
        due("of several the least", x.wrong(0, 1), 0);
        StarPlates y = skewed();
        y.light(0, 1, y.word(63));
        due("a star that is not in CLEANED is in none", y.wrong(0, 0), 0);
        y.set(1, 1000000);
        due("with star 1: of 0, 2, 5", y.wrong(0, 0), 3);
        due("with star 1", y.wrong(0, 1), 1);
        StarPlates even = three(1000, 1000);
        even.unstar();
        even.star(0, 400, 200);
        even.light(0, 1, even.word(10));
        due("like magnitudes are not wrong", even.wrong(0, 0), 0);
    }

    private static void both() {
        promise = 20;
        due("of nothing", new StarPlates().both(), 0);
        StarPlates x = six();
        due("all six", x.both(), 63);
        x.unspot(1);
        due("star 5 has no spot on plate 1", x.both(), 31);
        x.unspot(0);
        x.unspot(0);
        due("stars 4, 5 have none on plate 0", x.both(), 15);
        due("one plate alone", three(10, 10).both(), 0);
        StarPlates y = skewed();
        y.keep(0, 0);
        y.restore(1, 0);
        due("what is dropped is in none", y.both(), 61);
    }

    private static void carried() {
        promise = 21;
        StarPlates x = six();
        x.spot(0, 2500, 2100, 9);
        due("u of a stray spot", x.carried(6, 0), 1900);
        due("v of a stray spot", x.carried(6, 1), 1500);
        due("u of a star's spot", x.carried(3, 0), 1940);
        due("v of a star's spot", x.carried(3, 1), 920);
        due("carried(7, 0)", x.carried(7, 0), LOST);
        due("carried(-1, 0)", x.carried(-1, 0), LOST);
        due("carried(0, 2)", x.carried(0, 2), LOST);
        due("carried(0, -1)", x.carried(0, -1), LOST);
        due("no star in both", three(10, 10).carried(0, 0), LOST);
        StarPlates y = new StarPlates();
        int[][] places = {{0, 0}, {300, 0}, {0, 400}};
        for (int[] at : places) {
            y.star(at[0], at[1], 0);
            y.spot(0, 1000 + at[0], 1000 + at[1], 0);
            y.spot(1, at[0] / 100, at[1] / 100, 0);
        }
        y.spot(0, 950, 1199, 0);
        due("-1/2 comes to -1", y.carried(3, 0), -1);
        due("1.99 comes to 1", y.carried(3, 1), 1);
    }

    private static void mover() {
        promise = 22;
        due("of nothing", new StarPlates().mover(-1, 0), 0);
        due("the first of nothing", new StarPlates().mover(0, 0), -9);
        StarPlates x = six();
        due("no strays", x.mover(-1, 0), 0);
        x.spot(0, 2500, 2100, 9);
        x.spot(1, 1903, 1504, 9);
        due("one", x.mover(-1, 0), 1);
        due("how many, what is 2", x.mover(-1, 2), 1);
        due("its spot on plate 0", x.mover(0, 0), 6);
        due("its spot on plate 1", x.mover(0, 1), 6);
        due("the square", x.mover(0, 2), 25);
        due("a second", x.mover(1, 0), -9);
        due("mover(7, 2)", x.mover(7, 2), -9);
        due("mover(8, 0)", x.mover(8, 0), -2);
        due("mover(-2, 0)", x.mover(-2, 0), -2);
        due("mover(0, 3)", x.mover(0, 3), -2);
        due("mover(0, -1)", x.mover(0, -1), -2);
        due("mover(-1, 3)", x.mover(-1, 3), -2);
        x.set(2, 25);
        due("as far as REACH", x.mover(-1, 0), 1);
        x.set(2, 24);
        due("beyond REACH", x.mover(-1, 0), 0);
        due("beyond REACH", x.mover(0, 0), -9);
        StarPlates y = three(1000, 1000);
        y.spot(0, 1500, 1500, 0);
        y.spot(1, 1500, 1500, 0);
        due("less than two stars in both", y.mover(-1, 0), 0);
    }

    private static void moverTies() {
        promise = 22;
        StarPlates x = six();
        // laid at (1900, 1500) and (1900, 1520)
        x.spot(0, 2500, 2100, 9);
        x.spot(0, 2520, 2100, 9);
        x.spot(1, 1900, 1530, 9);
        x.spot(1, 1900, 1521, 9);
        due("two", x.mover(-1, 0), 2);
        int[][] want = {{7, 7, 1}, {6, 6, 900}};
        for (int k = 0; k < 2; k++) for (int what = 0; what < 3; what++) due("the nearest first, " + k + ", " + what, x.mover(k, what), want[k][what]);
        StarPlates y = six();
        y.spot(0, 2520, 2100, 9);
        y.spot(0, 2500, 2100, 9);
        y.spot(1, 1905, 1510, 9);
        y.spot(1, 1895, 1510, 9);
        int[][] least = {{6, 6, 125}, {7, 7, 125}};
        for (int k = 0; k < 2; k++) for (int what = 0; what < 3; what++) due("of four alike, " + k + ", " + what, y.mover(k, what), least[k][what]);
    }

    /** A dropped spot is a stray; the spots of plate 1 are in another order, so each plate has its own numbers. */
    private static void moverOfDropped() {
        promise = 22;
        StarPlates x = skewed();
        for (int k = 5; k >= 0; k--) x.spot(1, x.ofSpot(0, k, 0), x.ofSpot(0, k, 1) + 7, 0);
        due("star 1 is dropped on both", x.both(), 61);
        due("u of spot 1", x.carried(1, 0), x.ofSpot(0, 1, 0));
        due("v of spot 1", x.carried(1, 1), x.ofSpot(0, 1, 1) + 7);
        due("v of spot 5", x.carried(5, 1), x.ofSpot(0, 5, 1) + 7);
        due("one", x.mover(-1, 0), 1);
        due("its spot on plate 0", x.mover(0, 0), 1);
        due("its spot on plate 1", x.mover(0, 1), 4);
        due("the square", x.mover(0, 2), 0);
    }

    private static void blinks() {
        promise = 23;
        due("of nothing", new StarPlates().blinks(), 0);
        StarPlates x = six();
        due("none", x.blinks(), 0);
        x.light(1, 0, x.word(40));
        due("200 and 160 differ by BLINK", x.blinks(), 1);
        x.light(1, 0, Float.floatToRawIntBits(40.25f));
        due("200 and 161 do not", x.blinks(), 0);
        x.light(1, 3, x.word(15));
        due("20 and 60: the other way", x.blinks(), 8);
        x.set(3, 41);
        due("BLINK is 41", x.blinks(), 0);
        x.set(3, 1);
        due("BLINK is 1", x.blinks(), 9);
        x.unspot(0);
        due("star 5 is on plate 1 alone", x.blinks(), 41);
        StarPlates y = three(10, 10);
        due("on plate 0 alone", y.blinks(), 7);
        y.star(5000, 1, 1);
        due("a star on neither plate", y.blinks(), 7);
    }

    private static void keep() {
        promise = 24;
        StarPlates x = three(10, 10);
        due("keep(2, 0)", x.keep(2, 0), -1);
        due("keep(-1, 0)", x.keep(-1, 0), -1);
        due("keep(0, 2)", x.keep(0, 2), -1);
        due("keep(0, -1)", x.keep(0, -1), -1);
        due("no copies", x.many(8), 0);
        due("keep(0, 1)", x.keep(0, 1), 3);
        due("keep(1, 0) of an empty plate", x.keep(1, 0), 0);
        due("two copies", x.many(8), 2);
        x.unspot(0);
        due("in place of what it was", x.keep(0, 1), 2);
        due("two copies", x.many(8), 2);
        due("restore(1, 1)", x.restore(1, 1), 2);
    }

    private static void restore() {
        promise = 25;
        StarPlates x = three(10, 20);
        due("restore(2, 0)", x.restore(2, 0), -1);
        due("restore(0, 2)", x.restore(0, 2), -1);
        due("restore(-1, -1)", x.restore(-1, -1), -1);
        due("restore(0, 0), not kept", x.restore(0, 0), -3);
        due("as it was", x.many(1), 3);
        x.keep(0, 0);
        x.light(0, 2, 0);
        x.unspot(0);
        x.spot(0, 4000, 4001, 5);
        x.spot(0, 4002, 4003, 5);
        due("restore(1, 0)", x.restore(1, 0), 3);
        due("x", x.ofSpot(1, 1, 0), 13);
        due("y", x.ofSpot(1, 2, 1), 24);
        due("the light as it was when it was kept", x.ofSpot(1, 2, 2), 70);
        due("plate 0 is as it was", x.ofSpot(0, 3, 0), 4002);
        x.light(1, 0, 0);
        due("the copy does not change with the plate", x.restore(0, 0), 3);
        due("light", x.ofSpot(0, 0, 2), 90);
        due("its own are gone", x.ofSpot(0, 3, 0), -1);
        due("place", x.ofSpot(0, 2, 0), 10);
        due("a kept copy stays", x.many(8), 1);
        StarPlates y = three(10, 10);
        y.keep(1, 1);
        due("an empty copy", y.restore(0, 1), 0);
        due("many(1)", y.many(1), 0);
    }

    private static void tray() {
        promise = 26;
        StarPlates x = three(10, 10);
        due("tray(-1, 0, 1)", x.tray(-1, 0, 1), -1);
        due("tray(3, 0, 1)", x.tray(3, 0, 1), -1);
        due("tray(3, 3, -1)", x.tray(3, 3, -1), -1);
        due("tray(0, 3, 1)", x.tray(0, 3, 1), -2);
        due("tray(0, -1, 1)", x.tray(0, -1, 1), -2);
        due("tray(0, 0, 9)", x.tray(0, 0, 9), -2);
        due("tray(0, 0, -1)", x.tray(0, 0, -1), -14);
        due("tray(0, 0, min)", x.tray(0, 0, Integer.MIN_VALUE), -14);
        due("tray(0, 3, -1): OUTSIDE ahead of SIZE", x.tray(0, 3, -1), -2);
        due("none came", x.many(7), 0);
        due("tray(0, 0, 8)", x.tray(0, 0, 8), 8);
        due("tray(2, 2, 0)", x.tray(2, 2, 0), 0);
        due("two are there", x.many(7), 2);
        x.lay(0, 7, 0, 1);
        due("a refusal changes nothing", x.tray(0, 1, -3), -14);
        due("place 7", x.seen(0, 7), 1);
        due("in place of what was", x.tray(0, 1, 3), 3);
        due("empty at first", x.seen(0, 0), -9);
        due("no place 7", x.seen(0, 7), -13);
        due("of the new sort", x.lay(0, 0, 0, 0), -15);
        due("again with 8 places", x.tray(0, 0, 8), 8);
        due("empty at first", x.seen(0, 7), -9);
        due("two are there", x.many(7), 2);
    }

    private static void lay() {
        promise = 27;
        StarPlates x = three(10, 10);
        x.spot(1, 1, 1, 1);
        due("lay(-1, ..)", x.lay(-1, 0, 0, 0), -1);
        due("lay(3, ..)", x.lay(3, 0, 9, 0), -1);
        due("what 3, ahead of UNKNOWN and MISSING", x.lay(0, 0, 3, 9), -2);
        due("what -1", x.lay(0, 0, -1, 0), -2);
        due("no such star, ahead of MISSING", x.lay(0, 0, 0, 3), -1);
        due("no such spot of plate 0", x.lay(0, 0, 1, 3), -1);
        due("no such spot of plate 1", x.lay(0, 0, 2, 1), -1);
        due("no such star", x.lay(0, 0, 0, -1), -1);
        due("no such tray", x.lay(0, 0, 0, 0), -11);
        for (int sort = 0; sort < 3; sort++) x.tray(sort, sort, 2);
        due("no such place", x.lay(0, 2, 0, 0), -13);
        due("no such place", x.lay(0, -1, 0, 0), -13);
        due("INDEX ahead of SORT", x.lay(0, 2, 1, 0), -13);
        due("UNKNOWN ahead of INDEX", x.lay(0, 2, 0, 3), -1);
        int[][] want = {{1, -15, -15}, {-15, 1, 1}, {1, 1, 1}};
        for (int t = 0; t < 3; t++) for (int what = 0; what < 3; what++) due("tray " + t + " and what " + what, x.lay(t, 1, what, 0), want[t][what]);
        due("a fault changes nothing", x.seen(0, 1), 0);
        due("the later one stays", x.seen(1, 1), 20);
        due("the other place is empty", x.seen(1, 0), -9);
    }

    private static void seen() {
        promise = 28;
        StarPlates x = three(10, 10);
        x.spot(1, 1, 1, 1);
        due("seen(-1, 0)", x.seen(-1, 0), -1);
        due("seen(3, 0)", x.seen(3, 0), -1);
        due("seen(0, 0)", x.seen(0, 0), -11);
        x.tray(0, 2, 4);
        due("nothing", x.seen(0, 3), -9);
        due("no such place", x.seen(0, 4), -13);
        due("no such place", x.seen(0, -1), -13);
        x.lay(0, 0, 0, 2);
        x.lay(0, 1, 1, 2);
        x.lay(0, 2, 2, 0);
        due("star 2", x.seen(0, 0), 2);
        due("spot 2 of plate 0", x.seen(0, 1), 12);
        due("spot 0 of plate 1", x.seen(0, 2), 20);
        x.unstar();
        x.unspot(0);
        x.unspot(1);
        due("whatever becomes of the star", x.seen(0, 0), 2);
        due("whatever becomes of the spot", x.seen(0, 1), 12);
        due("whatever becomes of the spot", x.seen(0, 2), 20);
        x.tray(1, 0, 0);
        due("a tray of no places", x.seen(1, 0), -13);
    }

    private static void many() {
        promise = 29;
        StarPlates x = skewed();
        due("many(-1)", x.many(-1), -2);
        due("many(9)", x.many(9), -2);
        x.keep(0, 1);
        x.restore(1, 1);
        x.unspot(1);
        x.spot(1, 4000, 4000, 0);
        x.spot(1, 4001, 4000, 0);
        x.tray(2, 0, 1);
        due("stars", x.many(0), 6);
        due("spots of plate 0", x.many(1), 6);
        due("spots of plate 1", x.many(2), 7);
        due("MATCH of plate 0", x.many(3), 6);
        due("CLEANED of plate 0", x.many(5), 5);
        int matched = 0;
        int left = 0;
        for (int s = 0; s < 6; s++) {
            if (x.match(1, s, false) >= 0) matched++;
            if (x.match(1, s, true) >= 0) left++;
        }
        due("MATCH of plate 1", x.many(4), matched);
        due("CLEANED of plate 1", x.many(6), left);
        due("trays", x.many(7), 1);
        due("copies", x.many(8), 1);
        x.set(1, 1000000);
        due("CLEANED of plate 0", x.many(5), 6);
    }

    /** Eight stars and eight spots on both plates, those of plate 1 the other way round and turned. */
    private static void fullSky() {
        int[][] sky = {{0, 0}, {1200, 100}, {310, 940}, {-830, 620}, {-540, -1130}, {950, -720}, {410, -250}, {-170, 380}};
        StarPlates x = new StarPlates();
        for (int s = 0; s < 8; s++) x.star(sky[s][0], sky[s][1], 10 * s);
        for (int s = 0; s < 8; s++) x.spot(0, 2000 + sky[s][0], 2000 + sky[s][1], 200 - 10 * s);
        for (int s = 7; s >= 0; s--) x.spot(1, 2000 - sky[s][1], 2000 + sky[s][0], 200 - 10 * s);
        promise = 15;
        for (int s = 0; s < 8; s++) {
            due("match(0, " + s + ", true)", x.match(0, s, true), s);
            due("match(1, " + s + ", true)", x.match(1, s, true), 7 - s);
            due("match(1, " + s + ", false)", x.match(1, s, false), 7 - s);
            due("off(1, " + s + ")", x.off(1, s), 0);
            due("laid(1, " + s + ", 0)", x.laid(1, s, 0), 2000 - sky[s][1]);
            due("carried(" + s + ", 1)", x.carried(s, 1), 2000 + sky[s][0]);
        }
        promise = 13;
        due("every triple with itself, at least", x.alike(1) >= 56 ? 1 : 0, 1);
        promise = 14;
        due("votes of the last star and its spot", x.votes(1, 7, 0) >= 21 ? 1 : 0, 1);
        promise = 16;
        share(x, 1, 0, 0, 1);
        share(x, 1, 1, 1, 1);
        promise = 19;
        due("ranks as they should be", x.wrong(1, 0), 0);
        x.light(1, 0, x.word(63));
        due("the faintest has the most light", x.wrong(1, 0), 7);
        due("ODD", x.wrong(1, 1), 7);
        promise = 20;
        due("all eight", x.both(), 255);
        promise = 22;
        due("no strays", x.mover(-1, 0), 0);
        promise = 23;
        due("star 7: 130 and 252", x.blinks(), 128);
        promise = 24;
        due("keep(1, 0)", x.keep(1, 0), 8);
        promise = 25;
        due("restore(0, 0)", x.restore(0, 0), 8);
        due("the last spot", x.ofSpot(0, 7, 2), 200);
        promise = 29;
        for (int what = 0; what < 7; what++) due("many(" + what + ")", x.many(what), 8);
    }
}
