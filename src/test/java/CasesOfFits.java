import java.math.BigInteger;

/** Promises 16 to 18: fits, where a star is laid, how far it is off. */
final class CasesOfFits extends Case {
    private CasesOfFits() { }

    private static void share(StarPlates x, int p, int what, long upper, long lower) {
        due(x.fit(p, what, 0), upper);
        due(x.fit(p, what, 1), lower);
    }

    /** The six stars, doubled; plate 0 has them turned about and thrice, plate 1 turned by a right angle and five times. */
    private static StarPlates turned() {
        StarPlates x = new StarPlates();
        for (int[] at : Skies.SIX) {
            x.star(2 * at[0], 2 * at[1], 0);
            x.spot(0, 2000 - 3 * at[0], 2000 - 3 * at[1], 0);
            x.spot(1, 2000 + 5 * at[1], 2000 - 5 * at[0], 0);
        }
        return x;
    }

    /** Eight stars up to the corners, and plate 0 with each about a fifth as far: sums are far beyond an int. */
    private static StarPlates wide() {
        StarPlates x = Skies.stars(new int[] {9999, 9999}, new int[] {-9999, -9999}, new int[] {-8021, 5947}, new int[] {8996, -7198},
            new int[] {-3683, -8881}, new int[] {7714, 9225}, new int[] {-7002, -7748}, new int[] {-3322, -8904});
        Skies.spots(x, 0, new int[] {4050, 4049}, new int[] {49, 51}, new int[] {446, 3239}, new int[] {3846, 608},
            new int[] {1311, 274}, new int[] {3593, 3895}, new int[] {649, 498}, new int[] {1385, 271});
        x.set(0, 3);
        due(x.many(5), 8);
        return x;
    }

    // ---- 16: "LOST: UNKNOWN; OUTSIDE; STATE: there are less than two."

    static void p16_fit_plateTooSmall_isLOST() {
        due(Skies.six().fit(-1, 0, 0), LOST);
    }

    static void p16_fit_plateTooLarge_isLOST() {
        due(Skies.six().fit(2, 0, 0), LOST);
    }

    static void p16_fit_plateFarOutside_isLOST() {
        for (int wild : WILD) due(Skies.six().fit(wild, 0, 0), LOST);
    }

    static void p16_fit_whatTooSmall_isLOST() {
        for (int p = 0; p < 2; p++) due(Skies.six().fit(p, -1, 0), LOST);
    }

    static void p16_fit_whatTooLarge_isLOST() {
        for (int p = 0; p < 2; p++) due(Skies.six().fit(p, 2, 0), LOST);
    }

    static void p16_fit_whatFarOutside_isLOST() {
        for (int wild : WILD) due(Skies.six().fit(0, wild, 1), LOST);
    }

    static void p16_fit_whichTooSmall_isLOST() {
        for (int p = 0; p < 2; p++) due(Skies.six().fit(p, 0, -1), LOST);
    }

    static void p16_fit_whichTooLarge_isLOST() {
        for (int p = 0; p < 2; p++) due(Skies.six().fit(p, 0, 2), LOST);
    }

    static void p16_fit_whichFarOutside_isLOST() {
        for (int wild : WILD) due(Skies.six().fit(0, 1, wild), LOST);
    }

    static void p16_fit_ofNothing_isLOST() {
        for (int what = 0; what < 2; what++) for (int which = 0; which < 2; which++) due(new StarPlates().fit(0, what, which), LOST);
    }

    static void p16_fit_ofNoTwos_isLOST() {
        StarPlates x = Skies.three(9, 9);
        due(x.fit(0, 0, 0), 1);
        for (int what = 0; what < 2; what++) for (int which = 0; which < 2; which++) due(x.fit(1, what, which), LOST);
    }

    static void p16_fit_onceATwoIsNoMore_isLOST() {
        StarPlates x = Skies.three(9, 9);
        x.unspot(0);
        due(x.fit(0, 0, 0), LOST);
    }

    static void p16_fit_ofTwoTwos_isTold() {
        // by stars 1, 2 alone: (30, 10) apart, their spots (36, 10)
        StarPlates x = Skies.twoLeft();
        due(x.many(5), 2);
        share(x, 0, 0, 59, 50);
        share(x, 0, 1, -3, 50);
    }

    // ---- 16: "as shares (0 by 1, if they are 0)"; "in least terms, the upper number .., the lower one (1; above 0)"

    static void p16_fit_B0_is0By1() {
        share(Skies.three(9, 9), 0, 1, 0, 1);
        share(Skies.six(), 0, 1, 0, 1);
    }

    static void p16_fit_A0_is0By1() {
        share(Skies.six(), 1, 0, 0, 1);
    }

    static void p16_fit_aWholeOne_isBy1() {
        share(Skies.six(), 0, 0, 1, 1);
        share(Skies.six(), 1, 1, 1, 1);
        share(Skies.skewed(), 0, 0, 2, 1);
    }

    static void p16_fit_below1_isInLeastTerms() {
        share(Skies.three(9, 9), 0, 0, 1, 100);
    }

    static void p16_fit_ABelow0_hasItsSignAbove() {
        share(turned(), 0, 0, -3, 2);
        share(turned(), 0, 1, 0, 1);
    }

    static void p16_fit_BBelow0_hasItsSignAbove() {
        share(turned(), 1, 0, 0, 1);
        share(turned(), 1, 1, -5, 2);
    }

    static void p16_fit_ofUnlikeOnes_isInLeastTerms() {
        StarPlates x = Skies.skewed();
        x.set(1, 1000000);
        share(x, 0, 0, 7265, 3541);
        share(x, 0, 1, 3517, 3541);
    }

    static void p16_fit_AAndB_areEachInLeastTerms() {
        StarPlates x = Skies.twoLeft();
        x.set(1, 1000000);
        share(x, 0, 0, 23, 20);
        share(x, 0, 1, -3, 40);
    }

    static void p16_fit_isByCleanedNotByMatch() {
        StarPlates x = Skies.skewed();
        due(x.many(3), 6);
        due(x.many(5), 5);
        share(x, 0, 0, 2, 1);
        share(x, 0, 1, 1, 1);
    }

    static void p16_fit_beyondAnInt() {
        share(wide(), 0, 0, 1642634649L, 8213656019L);
        share(wide(), 0, 1, -652393L, 8213656019L);
    }

    static void p16_fit_theGreatestScale() {
        // stars 1 and 2 apart, their spots 4095 and 2047 times as far
        StarPlates x = Skies.stars(new int[] {0, 0}, new int[] {1, 0}, new int[] {0, 2});
        Skies.spots(x, 0, new int[] {0, 0}, new int[] {2047, 0}, new int[] {0, 4094});
        share(x, 0, 0, 2047, 1);
        share(x, 0, 1, 0, 1);
    }

    static void p16_fit_theLeastScale() {
        StarPlates x = Skies.stars(new int[] {-9999, -9999}, new int[] {0, -9999}, new int[] {-9999, 9999});
        Skies.spots(x, 0, new int[] {0, 0}, new int[] {1, 0}, new int[] {0, 2});
        share(x, 0, 0, 1, 9999);
        share(x, 0, 1, 0, 1);
    }

    static void p16_fit_isByHowAllIsWhenAsked() {
        isByHowAllIs((x, answers) -> {
            for (int p = 0; p < 2; p++) for (int what = 0; what < 2; what++) for (int which = 0; which < 2; which++) answers.add(x.fit(p, what, which));
        });
    }

    // ---- 17: "LOST: UNKNOWN: PLATE, STAR; OUTSIDE; STATE: as fit()."

    static void p17_laid_plateTooSmall_isLOST() {
        due(Skies.six().laid(-1, 0, 0), LOST);
    }

    static void p17_laid_plateTooLarge_isLOST() {
        due(Skies.six().laid(2, 0, 0), LOST);
    }

    static void p17_laid_plateFarOutside_isLOST() {
        for (int wild : WILD) due(Skies.six().laid(wild, 0, 0), LOST);
    }

    static void p17_laid_starTooSmall_isLOST() {
        for (int p = 0; p < 2; p++) due(Skies.six().laid(p, -1, 0), LOST);
    }

    static void p17_laid_starTooLarge_isLOST() {
        for (int p = 0; p < 2; p++) due(Skies.six().laid(p, 6, 0), LOST);
        for (int p = 0; p < 2; p++) due(Skies.eight().laid(p, 8, 0), LOST);
    }

    static void p17_laid_starFarOutside_isLOST() {
        for (int wild : WILD) due(Skies.six().laid(0, wild, 0), LOST);
    }

    static void p17_laid_axisTooSmall_isLOST() {
        for (int p = 0; p < 2; p++) due(Skies.six().laid(p, 0, -1), LOST);
    }

    static void p17_laid_axisTooLarge_isLOST() {
        for (int p = 0; p < 2; p++) due(Skies.six().laid(p, 0, 2), LOST);
    }

    static void p17_laid_axisFarOutside_isLOST() {
        for (int wild : WILD) due(Skies.six().laid(0, 0, wild), LOST);
    }

    static void p17_laid_byNoTwos_isLOST() {
        for (int axis = 0; axis < 2; axis++) due(Skies.rightAngle().laid(0, 0, axis), LOST);
        for (int axis = 0; axis < 2; axis++) due(Skies.three(9, 9).laid(1, 0, axis), LOST);
    }

    static void p17_laid_ofNothing_isLOST() {
        due(new StarPlates().laid(0, 0, 0), LOST);
    }

    static void p17_laid_byTwoTwos_isTold() {
        // star 0 comes to (133.6, 118.8), stars 1 and 2 to their spots
        StarPlates x = Skies.twoLeft();
        long[][] want = {{133, 118}, {146, 130}, {110, 120}};
        for (int s = 0; s < 3; s++) for (int axis = 0; axis < 2; axis++) due(x.laid(0, s, axis), want[s][axis]);
    }

    static void p17_laid_ofAStarInNoTwo_isTold() {
        StarPlates x = Skies.three(20, 30);
        x.star(-500, 700, 0);
        due(x.match(0, 3, true), NONE);
        due(x.laid(0, 3, 0), 15);
        due(x.laid(0, 3, 1), 37);
    }

    static void p17_laid_ofADroppedStar_isTold() {
        StarPlates x = Skies.skewed();
        due(x.match(0, 1, true), NONE);
        due(x.laid(0, 1, 0), 2230);
        due(x.laid(0, 1, 1), 2140);
    }

    // ---- 17: "both to the greatest whole number that is no more"

    /** Where a star at x, y is laid by A 1/100, B 0, from (0, 0) to (0, 0). */
    private static void laidAt(int x, int y, long u, long v) {
        StarPlates sky = Skies.three(0, 0);
        due(sky.star(x, y, 0), 3);
        due(sky.many(5), 3);
        due(sky.laid(0, 3, 0), u);
        due(sky.laid(0, 3, 1), v);
    }

    static void p17_laid_justAboveAWholeOne_comesDown() {
        laidAt(101, 201, 1, 2);
    }

    static void p17_laid_justBelowAWholeOne_comesDown() {
        laidAt(199, 299, 1, 2);
    }

    static void p17_laid_aWholeOne_stays() {
        laidAt(700, 900, 7, 9);
    }

    static void p17_laid_justBelow0_isLessOne() {
        laidAt(-1, -1, -1, -1);
    }

    static void p17_laid_below0_comesDownNotTowards0() {
        laidAt(-50, -150, -1, -2);
        laidAt(-199, -201, -2, -3);
    }

    static void p17_laid_aWholeOneBelow0_stays() {
        laidAt(-100, -200, -1, -2);
        laidAt(-5000, -9900, -50, -99);
    }

    static void p17_laid_atTheEndsOfTheSky() {
        laidAt(-9999, 9999, -100, 99);
        laidAt(9999, -9999, 99, -100);
    }

    static void p17_laid_turned() {
        StarPlates x = Skies.six();
        for (int s = 0; s < 6; s++) due(x.laid(1, s, 0), 2000 - Skies.SIX[s][1]);
        for (int s = 0; s < 6; s++) due(x.laid(1, s, 1), 1000 + Skies.SIX[s][0]);
    }

    static void p17_laid_whereSumsAreBeyondAnInt() {
        StarPlates x = wide();
        long[][] want = new long[8][2];
        for (int s = 0; s < 8; s++) want[s] = laidByShares(x, s);
        for (int s = 0; s < 8; s++) for (int axis = 0; axis < 2; axis++) due(x.laid(0, s, axis), want[s][axis]);
        due(x.laid(0, 7, 0), 1384);
        due(x.laid(0, 7, 1), 269);
    }

    /** The document's words, by the shares that fit() tells and numbers without an end. */
    private static long[] laidByShares(StarPlates x, int s) {
        BigInteger[] sum = new BigInteger[4];
        for (int i = 0; i < 4; i++) sum[i] = BigInteger.ZERO;
        for (int i = 0; i < 8; i++) {
            sum[0] = sum[0].add(big(x.ofStar(i, 0) - 10000));
            sum[1] = sum[1].add(big(x.ofStar(i, 1) - 10000));
            sum[2] = sum[2].add(big(x.ofSpot(0, x.match(0, i, true), 0)));
            sum[3] = sum[3].add(big(x.ofSpot(0, x.match(0, i, true), 1)));
        }
        BigInteger a = big(x.fit(0, 0, 0)).multiply(big(x.fit(0, 1, 1))), b = big(x.fit(0, 1, 0)).multiply(big(x.fit(0, 0, 1)));
        BigInteger d = big(x.fit(0, 0, 1)).multiply(big(x.fit(0, 1, 1)));
        BigInteger fromX = big(8L * (x.ofStar(s, 0) - 10000)).subtract(sum[0]), fromY = big(8L * (x.ofStar(s, 1) - 10000)).subtract(sum[1]);
        BigInteger u = sum[2].multiply(d).add(a.multiply(fromX)).subtract(b.multiply(fromY));
        BigInteger v = sum[3].multiply(d).add(b.multiply(fromX)).add(a.multiply(fromY));
        return new long[] {floor(u, d.multiply(big(8))), floor(v, d.multiply(big(8)))};
    }

    private static BigInteger big(long v) {
        return BigInteger.valueOf(v);
    }

    private static long floor(BigInteger above, BigInteger below) {
        return above.subtract(above.mod(below)).divide(below).longValueExact();
    }

    static void p17_laid_farBeyondThePlate() {
        StarPlates x = Skies.stars(new int[] {0, 0}, new int[] {1, 0}, new int[] {0, 2});
        Skies.spots(x, 0, new int[] {0, 0}, new int[] {2047, 0}, new int[] {0, 4094});
        x.star(-9999, 9999, 0);
        due(x.laid(0, 3, 0), -9999L * 2047);
        due(x.laid(0, 3, 1), 9999L * 2047);
    }

    static void p17_laid_isByHowAllIsWhenAsked() {
        isByHowAllIs((x, answers) -> {
            for (int p = 0; p < 2; p++) for (int s = 1; s < 7; s += 2) for (int axis = 0; axis < 2; axis++) answers.add(x.laid(p, s, axis));
        });
    }

    // ---- 18: "LOST: UNKNOWN: PLATE, STAR; STATE: it is in none, as fit()."

    static void p18_off_plateTooSmall_isLOST() {
        due(Skies.six().off(-1, 0), LOST);
    }

    static void p18_off_plateTooLarge_isLOST() {
        due(Skies.six().off(2, 0), LOST);
    }

    static void p18_off_plateFarOutside_isLOST() {
        for (int wild : WILD) due(Skies.six().off(wild, 0), LOST);
    }

    static void p18_off_starTooSmall_isLOST() {
        for (int p = 0; p < 2; p++) due(Skies.six().off(p, -1), LOST);
    }

    static void p18_off_starTooLarge_isLOST() {
        for (int p = 0; p < 2; p++) due(Skies.six().off(p, 6), LOST);
        for (int p = 0; p < 2; p++) due(Skies.eight().off(p, 8), LOST);
    }

    static void p18_off_starFarOutside_isLOST() {
        for (int wild : WILD) due(Skies.six().off(0, wild), LOST);
    }

    static void p18_off_ofNothing_isLOST() {
        due(new StarPlates().off(0, 0), LOST);
    }

    static void p18_off_byNoTwos_isLOST() {
        due(Skies.rightAngle().off(0, 0), LOST);
        due(Skies.three(9, 9).off(1, 0), LOST);
    }

    static void p18_off_ofAStarInNoTwo_isLOST() {
        StarPlates x = Skies.three(20, 30);
        x.star(-500, 700, 0);
        due(x.off(0, 3), LOST);
        due(x.off(0, 2), 0);
    }

    static void p18_off_ofADroppedStar_isLOST() {
        StarPlates x = Skies.skewed();
        due(x.match(0, 1, false), 1);
        due(x.off(0, 1), LOST);
        due(x.off(0, 0), 0);
    }

    static void p18_off_byTwoTwos_is0() {
        StarPlates x = Skies.twoLeft();
        due(x.off(0, 0), LOST);
        due(x.off(0, 1), 0);
        due(x.off(0, 2), 0);
    }

    static void p18_off_whereItShouldLie_is0() {
        for (int s = 0; s < 6; s++) due(Skies.six().off(1, s), 0);
    }

    static void p18_off_isTheSquareFromWhereItIsLaid() {
        StarPlates x = Skies.skewed();
        x.set(1, 1000000);
        long[] want = {16, 400, 52, 9, 36, 80};
        for (int s = 0; s < 6; s++) {
            long u = x.laid(0, s, 0) - x.ofSpot(0, s, 0);
            long v = x.laid(0, s, 1) - x.ofSpot(0, s, 1);
            due(x.off(0, s), want[s]);
            due(u * u + v * v, want[s]);
        }
    }

    static void p18_off_isByWholePlaces() {
        // star 0 of all three comes to (132.25, 119.25), that is (132, 119), and its spot is at (130, 120)
        StarPlates x = Skies.twoLeft();
        x.set(1, 1000000);
        long[] want = {5, 4, 1};
        for (int s = 0; s < 3; s++) due(x.off(0, s), want[s]);
    }

    static void p18_off_isByHowAllIsWhenAsked() {
        isByHowAllIs((x, answers) -> {
            for (int p = 0; p < 2; p++) for (int s = 0; s < 7; s++) answers.add(x.off(p, s));
        });
    }
}
