/** Promises 12 to 14: triples, and votes by those that are alike. */
final class CasesOfTriples extends Case {
    private static final int[][] ORDERS = {{0, 1, 2}, {2, 1, 0}, {1, 0, 2}, {1, 2, 0}, {2, 0, 1}, {0, 2, 1}};

    private CasesOfTriples() { }

    /** The three stars of a right angle, and the same three spots on both plates. */
    private static StarPlates threes() {
        return Skies.pair();
    }

    private static void isFlat(int[]... places) {
        StarPlates x = Skies.spots(Skies.stars(places), 1, places);
        for (int[] o : ORDERS) {
            for (int what = 0; what < 6; what++) {
                due(x.triple(-1, o[0], o[1], o[2], what), NONE);
                due(x.triple(1, o[0], o[1], o[2], what), NONE);
            }
        }
    }

    private static void isTriple(int[] want, int[]... places) {
        StarPlates x = Skies.stars(places);
        for (int[] o : ORDERS) for (int what = 0; what < 6; what++) due(x.triple(-1, o[0], o[1], o[2], what), want[what]);
    }

    // ---- 12: "UNKNOWN: PLATE (-1 .. 1), STARS, SPOTS (two are one: so, too); OUTSIDE."

    static void p12_triple_plateTooSmall_isUNKNOWN() {
        due(threes().triple(-2, 0, 1, 2, 0), UNKNOWN);
    }

    static void p12_triple_plateTooLarge_isUNKNOWN() {
        due(threes().triple(2, 0, 1, 2, 0), UNKNOWN);
    }

    static void p12_triple_plateFarOutside_isUNKNOWN() {
        for (int wild : WILD) due(threes().triple(wild, 0, 1, 2, 0), UNKNOWN);
    }

    static void p12_triple_plateLessOne_isOfStars() {
        StarPlates x = Skies.rightAngle();
        due(x.triple(-1, 0, 1, 2, 0), 72);
        due(x.triple(0, 0, 1, 2, 0), UNKNOWN);
        due(x.triple(1, 0, 1, 2, 0), UNKNOWN);
    }

    static void p12_triple_plates0And1_areOfTheirSpots() {
        StarPlates x = new StarPlates();
        Skies.spots(x, 0, new int[] {0, 0}, new int[] {300, 0}, new int[] {0, 400});
        Skies.spots(x, 1, new int[] {0, 0}, new int[] {300, 0}, new int[] {0, 390});
        due(x.triple(0, 0, 1, 2, 0), 72);
        due(x.triple(1, 0, 1, 2, 0), 74);
        due(x.triple(-1, 0, 1, 2, 0), UNKNOWN);
    }

    static void p12_triple_oneTooSmall_isUNKNOWN() {
        for (int p = -1; p < 2; p++) {
            due(threes().triple(p, -1, 1, 2, 0), UNKNOWN);
            due(threes().triple(p, 0, -1, 2, 0), UNKNOWN);
            due(threes().triple(p, 0, 1, -1, 0), UNKNOWN);
        }
    }

    static void p12_triple_oneTooLarge_isUNKNOWN() {
        for (int p = -1; p < 2; p++) {
            due(threes().triple(p, 3, 1, 2, 0), UNKNOWN);
            due(threes().triple(p, 0, 3, 2, 0), UNKNOWN);
            due(threes().triple(p, 0, 1, 3, 0), UNKNOWN);
            due(Skies.eight().triple(p, 8, 1, 2, 0), UNKNOWN);
            due(Skies.eight().triple(p, 0, 8, 2, 0), UNKNOWN);
            due(Skies.eight().triple(p, 0, 1, 8, 0), UNKNOWN);
        }
    }

    static void p12_triple_oneFarOutside_isUNKNOWN() {
        for (int wild : WILD) {
            for (int p = -1; p < 2; p++) {
                due(threes().triple(p, wild, 1, 2, 0), UNKNOWN);
                due(threes().triple(p, 0, wild, 2, 0), UNKNOWN);
                due(threes().triple(p, 0, 1, wild, 0), UNKNOWN);
            }
        }
    }

    static void p12_triple_ofTwo_isUNKNOWN() {
        StarPlates x = threes();
        x.unstar();
        x.unspot(1);
        due(x.triple(-1, 0, 1, 2, 0), UNKNOWN);
        due(x.triple(1, 0, 1, 2, 0), UNKNOWN);
        due(x.triple(0, 0, 1, 2, 0), 72);
    }

    static void p12_triple_firstTwoAreOne_isUNKNOWN() {
        for (int p = -1; p < 2; p++) due(threes().triple(p, 1, 1, 2, 0), UNKNOWN);
    }

    static void p12_triple_lastTwoAreOne_isUNKNOWN() {
        for (int p = -1; p < 2; p++) due(threes().triple(p, 1, 2, 2, 0), UNKNOWN);
    }

    static void p12_triple_outerTwoAreOne_isUNKNOWN() {
        for (int p = -1; p < 2; p++) due(threes().triple(p, 2, 1, 2, 0), UNKNOWN);
    }

    static void p12_triple_allAreOne_isUNKNOWN() {
        for (int p = -1; p < 2; p++) due(threes().triple(p, 0, 0, 0, 0), UNKNOWN);
    }

    static void p12_triple_whatTooSmall_isOUTSIDE() {
        for (int p = -1; p < 2; p++) due(threes().triple(p, 0, 1, 2, -1), OUTSIDE);
    }

    static void p12_triple_whatTooLarge_isOUTSIDE() {
        for (int p = -1; p < 2; p++) due(threes().triple(p, 0, 1, 2, 6), OUTSIDE);
    }

    static void p12_triple_whatFarOutside_isOUTSIDE() {
        for (int wild : WILD) due(threes().triple(-1, 0, 1, 2, wild), OUTSIDE);
    }

    static void p12_triple_UNKNOWNIsAheadOfOUTSIDE() {
        due(threes().triple(2, 0, 1, 2, 6), UNKNOWN);
        due(threes().triple(-2, 0, 1, 2, -1), UNKNOWN);
        due(threes().triple(0, 0, 1, 3, 6), UNKNOWN);
        due(threes().triple(0, -1, 1, 2, 6), UNKNOWN);
        due(threes().triple(-1, 0, 1, 1, 6), UNKNOWN);
    }

    static void p12_triple_OUTSIDEIsAheadOfFLAT() {
        StarPlates x = Skies.stars(new int[] {0, 0}, new int[] {10, 0}, new int[] {30, 0});
        due(x.triple(-1, 0, 1, 2, 6), OUTSIDE);
        due(x.triple(-1, 0, 1, 2, -1), OUTSIDE);
    }

    // ---- 12: "It is FLAT, if all three lie on one line, or two of its SIDES are alike: it has no MARKS then."

    static void p12_triple_onALineAcross_isFLAT() {
        isFlat(new int[] {0, 7}, new int[] {10, 7}, new int[] {30, 7});
    }

    static void p12_triple_onALineUpwards_isFLAT() {
        isFlat(new int[] {7, 0}, new int[] {7, 10}, new int[] {7, 30});
    }

    static void p12_triple_onASlantedLine_isFLAT() {
        isFlat(new int[] {0, 0}, new int[] {3, 2}, new int[] {9, 6});
        isFlat(new int[] {0, 60}, new int[] {30, 40}, new int[] {90, 0});
    }

    static void p12_triple_onALineWithOneAmidst_isFLAT() {
        isFlat(new int[] {0, 0}, new int[] {10, 0}, new int[] {20, 0});
    }

    static void p12_triple_onTheLongestLine_isFLAT() {
        StarPlates x = Skies.stars(new int[] {-9999, -9999}, new int[] {1, 1}, new int[] {9999, 9999});
        for (int what = 0; what < 6; what++) due(x.triple(-1, 0, 1, 2, what), NONE);
    }

    static void p12_triple_justOffALine_isNotFLAT() {
        // sides are 25000001, 24990001, 99980002
        isTriple(new int[] {49, 50, 1, 0, 2, 1}, new int[] {0, 0}, new int[] {5000, 1}, new int[] {9999, 1});
    }

    static void p12_triple_lesserTwoSidesAlike_isFLAT() {
        isFlat(new int[] {0, 0}, new int[] {10, 0}, new int[] {5, 3});
    }

    static void p12_triple_greaterTwoSidesAlike_isFLAT() {
        isFlat(new int[] {0, 0}, new int[] {10, 0}, new int[] {5, 30});
    }

    static void p12_triple_twoSidesAlikeInAnotherDirection_isFLAT() {
        // 25 is 3 by 4, and 0 by 5
        isFlat(new int[] {10, 10}, new int[] {13, 14}, new int[] {15, 10});
    }

    static void p12_triple_lesserTwoSidesDifferByOne_isNotFLAT() {
        // sides are 25, 26, 29
        isTriple(new int[] {172, 179, 1, 2, 0, 1}, new int[] {3, 4}, new int[] {0, 0}, new int[] {5, -1});
    }

    static void p12_triple_greaterTwoSidesDifferByOne_isNotFLAT() {
        // sides are 13, 25, 26
        isTriple(new int[] {100, 192, 1, 0, 2, 1}, new int[] {0, 0}, new int[] {3, 4}, new int[] {5, 1});
    }

    static void p12_triple_oneFLATOneLeavesTheNext() {
        StarPlates x = Skies.stars(new int[] {0, 0}, new int[] {300, 0}, new int[] {0, 400}, new int[] {600, 0});
        due(x.triple(-1, 0, 1, 3, 0), NONE);
        due(x.triple(-1, 0, 1, 2, 0), 72);
        due(x.triple(-1, 0, 1, 3, 3), NONE);
    }

    // ---- 12: CORNERS, MARKS (cut) and TURN

    static void p12_triple_isTheSameInEveryOrder() {
        isTriple(new int[] {72, 128, 0, 2, 1, 0}, new int[] {0, 0}, new int[] {300, 0}, new int[] {0, 400});
    }

    static void p12_triple_ofSpotsIsTheSameInEveryOrder() {
        StarPlates x = threes();
        int[] want = {72, 128, 0, 2, 1, 0};
        for (int p = 0; p < 2; p++) for (int[] o : ORDERS) for (int what = 0; what < 6; what++) due(x.triple(p, o[0], o[1], o[2], what), want[what]);
    }

    static void p12_triple_turnOfTheMirror_is1() {
        isTriple(new int[] {72, 128, 1, 2, 1, 0}, new int[] {0, 0}, new int[] {-300, 0}, new int[] {0, 400});
        isTriple(new int[] {72, 128, 1, 2, 1, 0}, new int[] {0, 0}, new int[] {300, 0}, new int[] {0, -400});
    }

    static void p12_triple_turnOfOneTurned_isTheSame() {
        isTriple(new int[] {72, 128, 0, 2, 1, 0}, new int[] {0, 0}, new int[] {0, 300}, new int[] {-400, 0});
        isTriple(new int[] {72, 128, 0, 2, 1, 0}, new int[] {0, 0}, new int[] {-300, 0}, new int[] {0, -400});
    }

    static void p12_triple_marksAreCut() {
        // 200 times 10 by 17 is 117.6, 200 times 13 by 17 is 152.9
        StarPlates x = Skies.stars(new int[] {0, 0}, new int[] {4, 1}, new int[] {1, 3});
        due(x.triple(-1, 0, 1, 2, 0), 117);
        due(x.triple(-1, 0, 1, 2, 1), 152);
    }

    static void p12_triple_markJustBelow100_isCutTo99() {
        // 200 * 19997^2 / (2 * 19998^2), and 200 * (19998^2 + 1) / (2 * 19998^2): beyond an int, both of them
        isTriple(new int[] {99, 100, 0, 1, 0, 2}, new int[] {-9999, -9999}, new int[] {9999, 9999}, new int[] {-9999, 9998});
    }

    static void p12_triple_leastMark_is0() {
        isTriple(new int[] {0, 199, 0, 1, 0, 2}, new int[] {0, 0}, new int[] {1000, 0}, new int[] {1, 1});
    }

    static void p12_triple_ofTheLastThreeOfEight() {
        StarPlates x = Skies.eight();
        due(x.triple(-1, 7, 6, 5, 3) >= 5 ? 1 : 0, 1);
        due(x.triple(0, 7, 6, 5, 0), x.triple(-1, 5, 6, 7, 0));
        due(x.triple(1, 0, 1, 2, 0), x.triple(-1, 5, 6, 7, 0));
        due(x.triple(1, 0, 1, 2, 3), 7 - x.triple(-1, 5, 6, 7, 3));
    }

    static void p12_triple_isByHowAllIsWhenAsked() {
        isByHowAllIs((x, answers) -> {
            for (int p = -1; p < 2; p++) for (int what = 0; what < 3; what++) answers.add((long) x.triple(p, 0, 3, 5, what));
        });
    }

    // ---- 13: "UNKNOWN."

    static void p13_alike_plateTooSmall_isUNKNOWN() {
        due(threes().alike(-1), UNKNOWN);
    }

    static void p13_alike_plateTooLarge_isUNKNOWN() {
        due(threes().alike(2), UNKNOWN);
    }

    static void p13_alike_plateFarOutside_isUNKNOWN() {
        for (int wild : WILD) due(threes().alike(wild), UNKNOWN);
    }

    // ---- 13: "A TRIPLE: three STARS, or three SPOTS of one PLATE."

    static void p13_alike_ofNothing_is0() {
        for (int p = 0; p < 2; p++) due(new StarPlates().alike(p), 0);
    }

    static void p13_alike_withoutSpots_is0() {
        for (int p = 0; p < 2; p++) due(Skies.rightAngle().alike(p), 0);
    }

    static void p13_alike_withoutStars_is0() {
        StarPlates x = threes();
        for (int s = 0; s < 3; s++) x.unstar();
        for (int p = 0; p < 2; p++) due(x.alike(p), 0);
    }

    static void p13_alike_ofTwoStars_is0() {
        StarPlates x = threes();
        x.unstar();
        for (int p = 0; p < 2; p++) due(x.alike(p), 0);
    }

    static void p13_alike_ofTwoSpots_is0() {
        StarPlates x = threes();
        x.unspot(1);
        due(x.alike(1), 0);
        due(x.alike(0), 1);
    }

    static void p13_alike_threeAndThree_is1() {
        for (int p = 0; p < 2; p++) due(threes().alike(p), 1);
    }

    static void p13_alike_countsEveryTwo() {
        // four stars and four spots, the four triples of each unlike one another
        StarPlates x = Skies.stars(new int[] {0, 0}, new int[] {300, 0}, new int[] {0, 400}, new int[] {700, 900});
        Skies.spots(x, 0, new int[] {1000, 1000}, new int[] {1300, 1000}, new int[] {1000, 1400}, new int[] {1700, 1900});
        due(x.alike(0), 4);
    }

    static void p13_alike_countsEveryTwoOfLikeTriples() {
        // two right angles of spots, two of stars, far from one another: four twos, and no others by SLACK 0
        int[][] places = {{0, 0}, {3, 0}, {0, 4}, {2000, 2010}, {2006, 2010}, {2000, 2018}};
        StarPlates x = Skies.spots(Skies.stars(places[0], places[1], places[2]), 0, places);
        x.set(0, 0);
        due(x.alike(0), 2);
    }

    static void p13_alike_ofTheLargestPlate() {
        StarPlates x = Skies.eight();
        int[] flat = new int[2];
        for (int i = 0; i < 8; i++) {
            for (int j = 0; j < i; j++) for (int k = 0; k < j; k++) if (x.triple(-1, i, j, k, 0) == NONE) flat[0]++;
        }
        due(flat[0], 0);
        x = Skies.eight();
        x.set(0, 0);
        due(x.alike(0), 56);
        due(x.alike(1), 56);
    }

    // ---- 13: "if neither is FLAT, their TURNS are the same"

    static void p13_alike_bothOnALine_is0() {
        int[][] line = {{0, 0}, {10, 0}, {30, 0}};
        due(Skies.spots(Skies.stars(line), 0, line).alike(0), 0);
    }

    static void p13_alike_bothWithTwoSidesAlike_is0() {
        int[][] peak = {{0, 0}, {10, 0}, {5, 30}};
        due(Skies.spots(Skies.stars(peak), 0, peak).alike(0), 0);
        int[][] roof = {{0, 0}, {10, 0}, {5, 3}};
        due(Skies.spots(Skies.stars(roof), 0, roof).alike(0), 0);
    }

    static void p13_alike_oneIsFLAT_is0() {
        // sides of 25, 26, 29 beside 25, 25, 50
        StarPlates x = Skies.stars(new int[] {3, 4}, new int[] {0, 0}, new int[] {5, -1});
        Skies.spots(x, 0, new int[] {13, 14}, new int[] {10, 10}, new int[] {14, 7});
        x.set(0, 50);
        due(x.triple(0, 0, 1, 2, 0), NONE);
        due(x.alike(0), 0);
    }

    static void p13_alike_turnedTheOtherWay_is0() {
        StarPlates x = Skies.stars(new int[] {0, 0}, new int[] {-300, 0}, new int[] {0, 400});
        Skies.spots(x, 0, new int[] {1000, 1000}, new int[] {1300, 1000}, new int[] {1000, 1400});
        x.set(0, 50);
        due(x.alike(0), 0);
    }

    static void p13_alike_bothTurnedTheOtherWay_is1() {
        StarPlates x = Skies.stars(new int[] {0, 0}, new int[] {-300, 0}, new int[] {0, 400});
        Skies.spots(x, 0, new int[] {1000, 1000}, new int[] {700, 1000}, new int[] {1000, 1400});
        due(x.alike(0), 1);
    }

    // ---- 13: "their first MARKS, their second ones too, differ by SLACK (0 .. 50; 2 at first) at most"

    /** Stars with MARKS 72, 128; spots at (0, 0), (a, 0), (b, c), whose MARKS differ from those by first and second. */
    private static StarPlates differing(int a, int b, int c, int first, int second) {
        StarPlates x = Skies.spots(Skies.rightAngle(), 1, new int[] {0, 0}, new int[] {a, 0}, new int[] {b, c});
        due(x.triple(1, 0, 1, 2, 0), 72 + first);
        due(x.triple(1, 0, 1, 2, 1), 128 + second);
        due(x.triple(1, 0, 1, 2, 2), 0);
        return x;
    }

    static void p13_alike_slackAtFirst_firstMarkMoreByTwo_is1() {
        due(differing(41, 15, 20, 2, 0).alike(1), 1);
    }

    static void p13_alike_slackAtFirst_firstMarkMoreByThree_is0() {
        due(differing(33, 1, 43, 3, 0).alike(1), 0);
    }

    static void p13_alike_slackAtFirst_firstMarkLessByTwo_is1() {
        due(differing(42, 15, 20, -2, 0).alike(1), 1);
    }

    static void p13_alike_slackAtFirst_firstMarkLessByThree_is0() {
        due(differing(17, 6, 8, -3, 0).alike(1), 0);
    }

    static void p13_alike_slackAtFirst_secondMarkMoreByTwo_is1() {
        due(differing(31, 11, 15, 0, 2).alike(1), 1);
    }

    static void p13_alike_slackAtFirst_secondMarkMoreByThree_is0() {
        due(differing(32, 1, 43, 0, 3).alike(1), 0);
    }

    static void p13_alike_slackAtFirst_secondMarkLessByTwo_is1() {
        due(differing(44, 16, 21, 0, -2).alike(1), 1);
    }

    static void p13_alike_slackAtFirst_secondMarkLessByThree_is0() {
        due(differing(63, 23, 30, 0, -3).alike(1), 0);
    }

    static void p13_alike_slack0_likeMarks_is1() {
        StarPlates x = threes();
        x.set(0, 0);
        due(x.alike(0), 1);
    }

    static void p13_alike_slack0_firstMarkMoreByOne_is0() {
        StarPlates x = differing(33, 12, 16, 1, 0);
        x.set(0, 0);
        due(x.alike(1), 0);
    }

    static void p13_alike_slack0_secondMarkMoreByOne_is0() {
        StarPlates x = differing(54, 1, 72, 0, 1);
        x.set(0, 0);
        due(x.alike(1), 0);
    }

    static void p13_alike_slack50_by50_is1() {
        int[][] spots = {{24, 5, 24, 50, 0}, {16, 19, 6, -50, 0}, {17, 6, 26, 0, 50}, {22, 29, 20, 0, -50}};
        for (int[] s : spots) {
            StarPlates x = differing(s[0], s[1], s[2], s[3], s[4]);
            x.set(0, 50);
            due(x.alike(1), 1);
            x.set(0, 49);
            due(x.alike(1), 0);
        }
    }

    static void p13_alike_slack50_by51_is0() {
        int[][] spots = {{19, 4, 19, 51, 0}, {13, 3, 3, -51, 0}, {28, 10, 43, 0, 51}, {34, 45, 31, 0, -51}};
        for (int[] s : spots) {
            StarPlates x = differing(s[0], s[1], s[2], s[3], s[4]);
            x.set(0, 50);
            due(x.alike(1), 0);
        }
    }

    static void p13_alike_isByHowAllIsWhenAsked() {
        isByHowAllIs((x, answers) -> {
            for (int p = 0; p < 2; p++) answers.add((long) x.alike(p));
        });
    }

    // ---- 14: "VOTES. UNKNOWN: PLATE, STAR, SPOT."

    static void p14_votes_plateTooSmall_isUNKNOWN() {
        due(threes().votes(-1, 0, 0), UNKNOWN);
    }

    static void p14_votes_plateTooLarge_isUNKNOWN() {
        due(threes().votes(2, 0, 0), UNKNOWN);
    }

    static void p14_votes_plateFarOutside_isUNKNOWN() {
        for (int wild : WILD) due(threes().votes(wild, 0, 0), UNKNOWN);
    }

    static void p14_votes_starTooSmall_isUNKNOWN() {
        due(threes().votes(0, -1, 0), UNKNOWN);
    }

    static void p14_votes_starTooLarge_isUNKNOWN() {
        due(threes().votes(0, 3, 0), UNKNOWN);
        due(Skies.eight().votes(0, 8, 0), UNKNOWN);
    }

    static void p14_votes_starFarOutside_isUNKNOWN() {
        for (int wild : WILD) due(threes().votes(0, wild, 0), UNKNOWN);
    }

    static void p14_votes_spotTooSmall_isUNKNOWN() {
        due(threes().votes(1, 0, -1), UNKNOWN);
    }

    static void p14_votes_spotTooLarge_isUNKNOWN() {
        due(threes().votes(1, 0, 3), UNKNOWN);
        due(Skies.eight().votes(1, 0, 8), UNKNOWN);
    }

    static void p14_votes_spotFarOutside_isUNKNOWN() {
        for (int wild : WILD) due(threes().votes(0, 0, wild), UNKNOWN);
    }

    static void p14_votes_spotOfTheOtherPlateAlone_isUNKNOWN() {
        StarPlates x = Skies.three(9, 9);
        due(x.votes(1, 0, 0), UNKNOWN);
        x.spot(1, 5, 5, 5);
        due(x.votes(1, 0, 1), UNKNOWN);
        due(x.votes(1, 0, 0), 0);
    }

    static void p14_votes_ofNothing_isUNKNOWN() {
        due(new StarPlates().votes(0, 0, 0), UNKNOWN);
    }

    static void p14_votes_sameCorner_is1() {
        for (int p = 0; p < 2; p++) for (int s = 0; s < 3; s++) due(threes().votes(p, s, s), 1);
    }

    static void p14_votes_anotherCorner_is0() {
        for (int p = 0; p < 2; p++) for (int s = 0; s < 3; s++) for (int k = 0; k < 3; k++) if (s != k) due(threes().votes(p, s, k), 0);
    }

    static void p14_votes_withoutAThirdSpot_is0() {
        StarPlates x = threes();
        x.unspot(0);
        due(x.votes(0, 0, 0), 0);
        due(x.votes(1, 0, 0), 1);
    }

    static void p14_votes_withoutAThirdStar_is0() {
        StarPlates x = threes();
        x.unstar();
        due(x.votes(0, 0, 0), 0);
    }

    static void p14_votes_byFLATOnes_is0() {
        int[][] peak = {{0, 0}, {10, 0}, {5, 30}};
        StarPlates x = Skies.spots(Skies.stars(peak), 0, peak);
        for (int s = 0; s < 3; s++) for (int k = 0; k < 3; k++) due(x.votes(0, s, k), 0);
    }

    static void p14_votes_countsEveryTwo() {
        StarPlates x = Skies.stars(new int[] {0, 0}, new int[] {300, 0}, new int[] {0, 400}, new int[] {700, 900});
        Skies.spots(x, 0, new int[] {1000, 1000}, new int[] {1300, 1000}, new int[] {1000, 1400}, new int[] {1700, 1900});
        for (int s = 0; s < 4; s++) for (int k = 0; k < 4; k++) due(x.votes(0, s, k), s == k ? 3 : 0);
    }

    static void p14_votes_ofTheLargestPlate() {
        StarPlates x = Skies.eight();
        x.set(0, 0);
        for (int s = 0; s < 8; s++) for (int k = 0; k < 8; k++) due(x.votes(0, s, k), s == k ? 21 : 0);
        for (int s = 0; s < 8; s++) for (int k = 0; k < 8; k++) due(x.votes(1, s, k), s == 7 - k ? 21 : 0);
    }

    static void p14_votes_ofAllTogether_areThreeForEachTwo() {
        StarPlates x = Skies.skewed();
        int sum = 0;
        for (int s = 0; s < 6; s++) for (int k = 0; k < 6; k++) sum += x.votes(0, s, k);
        due(sum, 3L * x.alike(0));
    }

    static void p14_votes_isByHowAllIsWhenAsked() {
        isByHowAllIs((x, answers) -> {
            for (int p = 0; p < 2; p++) for (int s = 0; s < 6; s++) answers.add((long) x.votes(p, s, (s + s / 4) % 6));
        });
    }
}
