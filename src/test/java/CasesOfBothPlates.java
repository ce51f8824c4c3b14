/** Promises 20 to 23: plates laid on one another, movers, blinkers. */
final class CasesOfBothPlates extends Case {
    private CasesOfBothPlates() { }

    /** The pair of like plates, with one spot more on each: where it lies on plate 0 it is laid on plate 1. */
    private static StarPlates moved(int fromX, int fromY, int toX, int toY) {
        StarPlates x = Skies.pair();
        x.spot(0, fromX, fromY, 0);
        x.spot(1, toX, toY, 0);
        due(x.both(), 7);
        due(x.many(5), 3);
        due(x.many(6), 3);
        return x;
    }

    private static void movers(StarPlates x, int[]... want) {
        due(x.mover(-1, 0), want.length);
        for (int k = 0; k < want.length; k++) for (int what = 0; what < 3; what++) due(x.mover(k, what), want[k][what]);
        for (int k = want.length; k < 8; k++) for (int what = 0; what < 3; what++) due(x.mover(k, what), NONE);
    }

    /** The pair of like plates, with given lights for star 0's spots. */
    private static StarPlates lit(int first, int second) {
        StarPlates x = Skies.pair();
        x.light(0, 0, Float.floatToRawIntBits(first / 4f));
        x.light(1, 0, Float.floatToRawIntBits(second / 4f));
        due(x.ofSpot(0, 0, 2), first);
        due(x.ofSpot(1, 0, 2), second);
        return x;
    }

    // ---- 20: "STARS in BOTH, as a set (bits 0 .. 7)."

    static void p20_both_ofNothing_isEmpty() {
        due(new StarPlates().both(), 0);
    }

    static void p20_both_ofStarsAlone_isEmpty() {
        due(Skies.rightAngle().both(), 0);
    }

    static void p20_both_ofPlate0Alone_isEmpty() {
        due(Skies.three(9, 9).both(), 0);
    }

    static void p20_both_ofPlate1Alone_isEmpty() {
        StarPlates x = Skies.pair();
        x.unspot(0);
        due(x.both(), 0);
    }

    static void p20_both_ofOneStar() {
        StarPlates x = Skies.oneInBoth();
        due(x.many(5), 3);
        due(x.many(6), 3);
        due(x.both(), 4);
    }

    static void p20_both_ofAllEight_hasBits0To7() {
        due(Skies.eight().both(), 255);
    }

    static void p20_both_ofTheLastStar_isBit7() {
        StarPlates x = Skies.eight();
        x.unstar();
        due(x.both(), 127);
    }

    static void p20_both_ofAStarDroppedOnOnePlate_isWithoutIt() {
        StarPlates x = Skies.skewed();
        for (int s = 0; s < 6; s++) x.spot(1, 2000 + Skies.SIX[s][0], 2000 + Skies.SIX[s][1], 0);
        due(x.match(0, 1, false), 1);
        due(x.match(1, 1, true), 1);
        due(x.both(), 61);
    }

    static void p20_both_ofAStarDroppedOnTheOtherPlate_isWithoutIt() {
        StarPlates x = Skies.skewed();
        x.keep(0, 0);
        x.restore(1, 0);
        for (int k = 0; k < 6; k++) x.unspot(0);
        for (int s = 0; s < 6; s++) x.spot(0, 2000 + Skies.SIX[s][0], 2000 + Skies.SIX[s][1], 0);
        due(x.match(0, 1, true), 1);
        due(x.both(), 61);
    }

    static void p20_both_isByHowAllIsWhenAsked() {
        isByHowAllIs((x, answers) -> answers.add((long) x.both()));
    }

    // ---- 21: "LOST: UNKNOWN; OUTSIDE; STATE: there are less than two STARS in BOTH."

    static void p21_carried_spotTooSmall_isLOST() {
        due(Skies.six().carried(-1, 0), LOST);
    }

    static void p21_carried_spotTooLarge_isLOST() {
        due(Skies.six().carried(6, 0), LOST);
        due(Skies.eight().carried(8, 1), LOST);
    }

    static void p21_carried_spotFarOutside_isLOST() {
        for (int wild : WILD) due(Skies.six().carried(wild, 0), LOST);
    }

    static void p21_carried_spotOfPlate1Alone_isLOST() {
        StarPlates x = Skies.pair();
        x.spot(1, 3000, 3000, 0);
        due(x.carried(3, 0), LOST);
        due(x.carried(2, 0), 1000);
    }

    static void p21_carried_axisTooSmall_isLOST() {
        due(Skies.six().carried(0, -1), LOST);
    }

    static void p21_carried_axisTooLarge_isLOST() {
        due(Skies.six().carried(0, 2), LOST);
    }

    static void p21_carried_axisFarOutside_isLOST() {
        for (int wild : WILD) due(Skies.six().carried(0, wild), LOST);
    }

    static void p21_carried_withNoStarInBoth_isLOST() {
        due(Skies.three(9, 9).carried(0, 0), LOST);
        due(new StarPlates().carried(0, 0), LOST);
    }

    static void p21_carried_withOneStarInBoth_isLOST() {
        StarPlates x = Skies.oneInBoth();
        due(x.both(), 4);
        for (int axis = 0; axis < 2; axis++) due(x.carried(0, axis), LOST);
    }

    static void p21_carried_withTwoStarsInBoth_isTold() {
        // stars 1, 2 alone: plate 1 is 1000 further
        StarPlates x = Skies.sixStrays();
        due(x.both(), 6);
        due(x.carried(7, 0), 2190);
        due(x.carried(7, 1), 540);
    }

    static void p21_carried_ofAStarsSpot_isTold() {
        StarPlates x = Skies.six();
        for (int k = 0; k < 6; k++) due(x.carried(k, 0), 2000 - Skies.SIX[k][1]);
        for (int k = 0; k < 6; k++) due(x.carried(k, 1), 1000 + Skies.SIX[k][0]);
    }

    static void p21_carried_ofAStraySpot_isTold() {
        StarPlates x = Skies.six();
        x.spot(0, 2500, 2100, 0);
        due(x.carried(6, 0), 1900);
        due(x.carried(6, 1), 1500);
    }

    static void p21_carried_ofTheLastOfEight_isTold() {
        due(Skies.eight().carried(7, 0), 1620);
        due(Skies.eight().carried(7, 1), 1830);
    }

    /** Plate 1 is a hundredth of plate 0, from (1000, 1000) to (0, 0). */
    private static void carriedFrom(int atX, int atY, long u, long v) {
        StarPlates x = Skies.rightAngle();
        Skies.spots(x, 0, new int[] {1000, 1000}, new int[] {1300, 1000}, new int[] {1000, 1400}, new int[] {atX, atY});
        Skies.spots(x, 1, new int[] {0, 0}, new int[] {3, 0}, new int[] {0, 4});
        due(x.both(), 7);
        due(x.carried(3, 0), u);
        due(x.carried(3, 1), v);
    }

    static void p21_carried_aboveAWholeOne_comesDown() {
        carriedFrom(1199, 1399, 1, 3);
        carriedFrom(1201, 1301, 2, 3);
    }

    static void p21_carried_below0_comesDownNotTowards0() {
        carriedFrom(950, 999, -1, -1);
        carriedFrom(899, 850, -2, -2);
    }

    static void p21_carried_aWholeOneBelow0_stays() {
        carriedFrom(900, 800, -1, -2);
    }

    static void p21_carried_farBeyondThePlate() {
        StarPlates x = Skies.stars(new int[] {0, 0}, new int[] {3, 0}, new int[] {0, 4});
        Skies.spots(x, 0, new int[] {0, 0}, new int[] {3, 0}, new int[] {0, 4}, new int[] {2058, 20});
        Skies.spots(x, 1, new int[] {1000, 1000}, new int[] {1096, 1000}, new int[] {1000, 1128});
        due(x.carried(3, 0), 66856);
        due(x.carried(3, 1), 1640);
    }

    static void p21_carried_isByTheSpotsNotTheStars() {
        // both plates have star 1 off by as much: from plate to plate nothing is off
        StarPlates x = Skies.skewed();
        x.set(1, 1000000);
        for (int k = 5; k >= 0; k--) x.spot(1, x.ofSpot(0, k, 0), x.ofSpot(0, k, 1) + 7, 0);
        due(x.both(), 63);
        for (int k = 0; k < 6; k++) due(x.carried(k, 0), x.ofSpot(0, k, 0));
        for (int k = 0; k < 6; k++) due(x.carried(k, 1), x.ofSpot(0, k, 1) + 7);
    }

    static void p21_carried_isByEveryStarInBoth() {
        // from skewed plate 0 to a plate 1 that has the stars as they are: each of the six bears on where all are carried
        StarPlates x = Skies.skewed();
        x.set(1, 1000000);
        for (int s = 0; s < 6; s++) x.spot(1, 2000 + Skies.SIX[s][0], 2000 + Skies.SIX[s][1], 0);
        due(x.both(), 63);
        long[][] want = {{1998, 2000}, {2127, 2006}, {2026, 2089}, {1919, 2058}, {1950, 1892}, {2087, 1933}};
        for (int k = 0; k < 6; k++) for (int axis = 0; axis < 2; axis++) due(x.carried(k, axis), want[k][axis]);
    }

    static void p21_carried_isByAllEightStarsInBoth() {
        // star 7 is the first spot of plate 1; it comes back as the last, off by (9, 7)
        StarPlates x = Skies.eight();
        for (int k = 0; k < 8; k++) x.unspot(1);
        for (int s = 0; s < 8; s++) x.spot(1, 2000 - Skies.EIGHT[s][1] + (s == 7 ? 9 : 0), 2000 + Skies.EIGHT[s][0] + (s == 7 ? 7 : 0), 0);
        x.set(1, 1000000);
        due(x.both(), 255);
        long[][] want = {{2001, 2001}, {1901, 3199}, {1061, 2310}, {1381, 1171}, {3130, 1461}, {2720, 2950}, {2250, 2410}, {1621, 1831}};
        for (int k = 0; k < 8; k++) for (int axis = 0; axis < 2; axis++) due(x.carried(k, axis), want[k][axis]);
    }

    static void p21_carried_isByHowAllIsWhenAsked() {
        isByHowAllIs((x, answers) -> {
            for (int k = 0; k < 7; k++) for (int axis = 0; axis < 2; axis++) answers.add(x.carried(k, axis));
        });
    }

    // ---- 22: "OUTSIDE: k (-1 .. 7), what."

    static void p22_mover_kTooSmall_isOUTSIDE() {
        for (int what = 0; what < 3; what++) due(Skies.six().mover(-2, what), OUTSIDE);
    }

    static void p22_mover_kTooLarge_isOUTSIDE() {
        for (int what = 0; what < 3; what++) due(Skies.six().mover(8, what), OUTSIDE);
    }

    static void p22_mover_kFarOutside_isOUTSIDE() {
        for (int wild : WILD) due(Skies.six().mover(wild, 0), OUTSIDE);
    }

    static void p22_mover_whatTooSmall_isOUTSIDE() {
        due(Skies.six().mover(0, -1), OUTSIDE);
    }

    static void p22_mover_whatTooLarge_isOUTSIDE() {
        due(Skies.six().mover(0, 3), OUTSIDE);
    }

    static void p22_mover_whatFarOutside_isOUTSIDE() {
        for (int wild : WILD) due(Skies.six().mover(0, wild), OUTSIDE);
    }

    static void p22_mover_OUTSIDEIsAheadOfNONE() {
        due(new StarPlates().mover(8, 0), OUTSIDE);
        due(new StarPlates().mover(-2, 0), OUTSIDE);
        due(new StarPlates().mover(0, 3), OUTSIDE);
        due(new StarPlates().mover(7, -1), OUTSIDE);
    }

    static void p22_mover_howManyWithWhatOutside_isOUTSIDE() {
        due(Skies.six().mover(-1, 3), OUTSIDE);
        due(Skies.six().mover(-1, -1), OUTSIDE);
    }

    static void p22_mover_howManyIsTheSameForEachWhat() {
        for (int what = 0; what < 3; what++) due(Skies.sixStrays().mover(-1, what), 6);
    }

    // ---- 22: "how many (k -1; 0, if less than two STARS are in BOTH)"; "NONE: there are fewer"

    static void p22_mover_ofNothing_areNone() {
        movers(new StarPlates());
    }

    static void p22_mover_withNoStarInBoth_areNone() {
        StarPlates x = new StarPlates();
        x.spot(0, 5, 5, 5);
        x.spot(1, 5, 5, 5);
        movers(x);
    }

    static void p22_mover_withOneStarInBoth_areNone() {
        StarPlates x = Skies.oneInBoth();
        x.set(2, 10000000);
        x.spot(0, 2000, 3000, 0);
        x.spot(1, 2100, 3000, 0);
        due(x.both(), 4);
        movers(x);
    }

    static void p22_mover_withTwoStarsInBoth_areTold() {
        StarPlates x = Skies.sixStrays();
        due(x.both(), 6);
        movers(x, new int[] {0, 0, 0}, new int[] {7, 7, 100}, new int[] {6, 6, 400}, new int[] {5, 5, 900}, new int[] {4, 4, 1600}, new int[] {3, 3, 2500});
    }

    static void p22_mover_withoutStrays_areNone() {
        movers(Skies.pair());
        movers(Skies.eight());
    }

    static void p22_mover_withAStrayOfPlate0Alone_areNone() {
        StarPlates x = Skies.pair();
        x.spot(0, 500, 2000, 0);
        movers(x);
    }

    static void p22_mover_withAStrayOfPlate1Alone_areNone() {
        StarPlates x = Skies.pair();
        x.spot(1, 500, 2000, 0);
        movers(x);
    }

    static void p22_mover_ofOne() {
        movers(moved(500, 2000, 503, 2004), new int[] {3, 3, 25});
    }

    // ---- 22: "is REACH (0 .. 10000000; 40000 at first) at most"

    static void p22_mover_reachAtFirst_by40000_isOne() {
        movers(moved(500, 2000, 700, 2000), new int[] {3, 3, 40000});
    }

    static void p22_mover_reachAtFirst_by40001_isNone() {
        movers(moved(500, 2000, 700, 2001));
    }

    static void p22_mover_asFarAsReach_isOne() {
        StarPlates x = moved(500, 2000, 503, 2004);
        x.set(2, 25);
        movers(x, new int[] {3, 3, 25});
    }

    static void p22_mover_beyondReachByOne_isNone() {
        StarPlates x = moved(500, 2000, 503, 2004);
        x.set(2, 24);
        movers(x);
    }

    static void p22_mover_reach0_by0_isOne() {
        StarPlates x = moved(500, 2000, 500, 2000);
        x.set(2, 0);
        movers(x, new int[] {3, 3, 0});
    }

    static void p22_mover_reach0_by1_isNone() {
        StarPlates x = moved(500, 2000, 500, 2001);
        x.set(2, 0);
        movers(x);
        x.set(2, 1);
        movers(x, new int[] {3, 3, 1});
    }

    static void p22_mover_greatestReach_by10000000_isOne() {
        StarPlates x = moved(500, 2000, 3500, 3000);
        x.set(2, 10000000);
        movers(x, new int[] {3, 3, 10000000});
        x.set(2, 9999999);
        movers(x);
    }

    static void p22_mover_greatestReach_beyondIt_isNone() {
        StarPlates x = moved(500, 2000, 3500, 3001);
        x.set(2, 10000000);
        movers(x);
    }

    static void p22_mover_aSquareBeyondAnInt_isNone() {
        // laid at (66856, 1640), 65536 from the stray of plate 1: the square is 2^32, by its last bits 0
        StarPlates x = Skies.stars(new int[] {0, 0}, new int[] {3, 0}, new int[] {0, 4});
        Skies.spots(x, 0, new int[] {0, 0}, new int[] {3, 0}, new int[] {0, 4}, new int[] {2058, 20});
        Skies.spots(x, 1, new int[] {1000, 1000}, new int[] {1096, 1000}, new int[] {1000, 1128}, new int[] {1320, 1640});
        x.set(2, 10000000);
        due(x.carried(3, 0) - x.ofSpot(1, 3, 0), 65536);
        due(x.carried(3, 1), x.ofSpot(1, 3, 1));
        due(x.both(), 7);
        movers(x);
    }

    static void p22_mover_theSquareIsFromTheWholePlace() {
        // laid at (-0.5, 1.99), that is (-1, 1)
        StarPlates x = Skies.rightAngle();
        Skies.spots(x, 0, new int[] {1000, 1000}, new int[] {1300, 1000}, new int[] {1000, 1400}, new int[] {950, 1199});
        Skies.spots(x, 1, new int[] {0, 0}, new int[] {3, 0}, new int[] {0, 4}, new int[] {2, 3});
        due(x.both(), 7);
        movers(x, new int[] {3, 3, 13});
    }

    // ---- 22: "STRAY are SPOTS that are not in CLEANED of their PLATE"

    static void p22_mover_ofADroppedSpot_isOne() {
        // star 1 is dropped on both plates; the spots of plate 1 are the other way round
        StarPlates x = Skies.skewed();
        for (int k = 5; k >= 0; k--) x.spot(1, x.ofSpot(0, k, 0), x.ofSpot(0, k, 1) + 7, 0);
        due(x.both(), 61);
        movers(x, new int[] {1, 4, 0});
    }

    static void p22_mover_ofASpotDroppedOnPlate0Alone_needsAStrayOfPlate1() {
        StarPlates x = Skies.skewed();
        for (int k = 0; k < 6; k++) x.spot(1, k == 1 ? 2230 : x.ofSpot(0, k, 0), x.ofSpot(0, k, 1), 0);
        due(x.match(0, 1, true), NONE);
        due(x.match(1, 1, true), 1);
        movers(x);
        x.spot(1, 2260, 2140, 0);
        due(x.match(1, 1, true), 1);
        movers(x, new int[] {1, 6, 0});
    }

    static void p22_mover_aStarsSpotIsNone() {
        // the stray of plate 0 is next to a star's spot of plate 1
        StarPlates x = Skies.pair();
        x.spot(0, 1001, 1401, 0);
        due(x.many(5), 3);
        movers(x);
    }

    // ---- 22: "the two of the least such square; of several that of the least SPOT of PLATE 0, then of PLATE 1"; "in none yet"

    /** Six stars, plate 1 turned: a spot (x, y) of plate 0 is laid at (4000 - y, x - 1000). */
    private static StarPlates strays(int[][] from, int[][] to) {
        StarPlates x = Skies.spots(Skies.spots(Skies.six(), 0, from), 1, to);
        due(x.both(), 63);
        return x;
    }

    static void p22_mover_theLeastSquareIsFirst() {
        // laid at (1900, 1500), (1900, 1520)
        StarPlates x = strays(new int[][] {{2500, 2100}, {2520, 2100}}, new int[][] {{1900, 1530}, {1900, 1521}});
        movers(x, new int[] {7, 7, 1}, new int[] {6, 6, 900});
    }

    static void p22_mover_aTakenSpotIsInNoOther() {
        // both of plate 0 are next to spot 6 of plate 1, spot 7 is the far one
        StarPlates x = strays(new int[][] {{2500, 2100}, {2503, 2100}}, new int[][] {{1900, 1501}, {1900, 1600}});
        movers(x, new int[] {6, 6, 1}, new int[] {7, 7, 97 * 97});
    }

    static void p22_mover_likeSquares_theLeastSpotOfPlate0() {
        // laid at (1900, 1520), (1900, 1500), both ten from the one of plate 1
        StarPlates x = strays(new int[][] {{2520, 2100}, {2500, 2100}}, new int[][] {{1900, 1510}});
        movers(x, new int[] {6, 6, 100});
    }

    static void p22_mover_likeSquares_theLeastSpotOfPlate1() {
        StarPlates x = strays(new int[][] {{2500, 2100}}, new int[][] {{1900, 1510}, {1900, 1490}});
        movers(x, new int[] {6, 6, 100});
    }

    static void p22_mover_likeSquaresOfFour() {
        StarPlates x = strays(new int[][] {{2520, 2100}, {2500, 2100}}, new int[][] {{1905, 1510}, {1895, 1510}});
        movers(x, new int[] {6, 6, 125}, new int[] {7, 7, 125});
    }

    static void p22_mover_oneStrayMoreOfPlate0_staysAlone() {
        StarPlates x = strays(new int[][] {{2500, 2100}, {2520, 2100}}, new int[][] {{1900, 1519}});
        movers(x, new int[] {7, 6, 1});
    }

    static void p22_mover_oneStrayMoreOfPlate1_staysAlone() {
        StarPlates x = strays(new int[][] {{2500, 2100}}, new int[][] {{1900, 1520}, {1900, 1501}});
        movers(x, new int[] {6, 7, 1});
    }

    static void p22_mover_isByHowAllIsWhenAsked() {
        isByHowAllIs((x, answers) -> {
            answers.add((long) x.mover(-1, 0));
            for (int k = 0; k < 3; k++) for (int what = 0; what < 3; what++) answers.add((long) x.mover(k, what));
        });
    }

    // ---- 23: "A STAR BLINKS, if it is in CLEANED of just one of both PLATES, or in both, and LIGHTS .. differ by BLINK .. or more."

    static void p23_blinks_ofNothing_isEmpty() {
        due(new StarPlates().blinks(), 0);
    }

    static void p23_blinks_onNeitherPlate_isNotIn() {
        due(Skies.rightAngle().blinks(), 0);
        StarPlates x = Skies.pair();
        x.star(5000, 77, 0);
        due(x.match(0, 3, true), NONE);
        due(x.match(1, 3, true), NONE);
        due(x.blinks(), 0);
    }

    static void p23_blinks_onPlate0Alone_isIn() {
        due(Skies.three(9, 9).blinks(), 7);
    }

    static void p23_blinks_onPlate1Alone_isIn() {
        StarPlates x = Skies.pair();
        x.unspot(0);
        due(x.blinks(), 7);
    }

    static void p23_blinks_onOnePlateEach_areIn() {
        due(Skies.oneInBoth().blinks(), 27);
    }

    static void p23_blinks_onBothWithLikeLights_isNotIn() {
        due(Skies.pair().blinks(), 0);
        due(Skies.eight().blinks(), 0);
    }

    static void p23_blinks_droppedOnOnePlate_isIn() {
        StarPlates x = Skies.skewed();
        for (int s = 0; s < 6; s++) x.spot(1, 2000 + Skies.SIX[s][0], 2000 + Skies.SIX[s][1], Skies.LIGHTS[s]);
        due(x.many(3), 6);
        due(x.blinks(), 2);
    }

    static void p23_blinks_droppedOnBothPlates_isNotIn() {
        StarPlates x = Skies.skewed();
        x.keep(0, 0);
        x.restore(1, 0);
        due(x.both(), 61);
        due(x.blinks(), 0);
        x.light(1, 1, 0);
        due(x.blinks(), 0);
    }

    static void p23_blinks_blinkAtFirst_by40_isIn() {
        due(lit(100, 140).blinks(), 1);
        due(lit(140, 100).blinks(), 1);
    }

    static void p23_blinks_blinkAtFirst_by39_isNotIn() {
        due(lit(100, 139).blinks(), 0);
        due(lit(139, 100).blinks(), 0);
    }

    static void p23_blinks_leastBlink_by1_isIn() {
        StarPlates x = lit(100, 101);
        x.set(3, 1);
        due(x.blinks(), 1);
        x = lit(101, 100);
        x.set(3, 1);
        due(x.blinks(), 1);
    }

    static void p23_blinks_leastBlink_by0_isNotIn() {
        StarPlates x = lit(100, 100);
        x.set(3, 1);
        due(x.blinks(), 0);
    }

    static void p23_blinks_greatestBlink_by255_isIn() {
        StarPlates x = lit(0, 255);
        x.set(3, 255);
        due(x.blinks(), 1);
        x = lit(255, 0);
        x.set(3, 255);
        due(x.blinks(), 1);
    }

    static void p23_blinks_greatestBlink_by254_isNotIn() {
        StarPlates x = lit(1, 255);
        x.set(3, 255);
        due(x.blinks(), 0);
        x = lit(254, 0);
        x.set(3, 255);
        due(x.blinks(), 0);
    }

    static void p23_blinks_ofAllEight_hasBits0To7() {
        StarPlates x = Skies.eight();
        for (int k = 0; k < 8; k++) x.light(0, k, 0);
        due(x.blinks(), 255);
    }

    static void p23_blinks_ofTheLastStar_isBit7() {
        // star 7 is spot 7 of plate 0 and spot 0 of plate 1, of light 130 both
        StarPlates x = Skies.eight();
        x.light(1, 0, 0);
        due(x.blinks(), 128);
    }

    static void p23_blinks_isByHowAllIsWhenAsked() {
        isByHowAllIs((x, answers) -> answers.add((long) x.blinks()));
    }
}
