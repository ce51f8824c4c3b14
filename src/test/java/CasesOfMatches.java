/** Promise 15: MATCH, and CLEANED. */
final class CasesOfMatches extends Case {
    private CasesOfMatches() { }

    private static void matches(StarPlates x, int p, boolean cleaned, int... spots) {
        for (int s = 0; s < spots.length; s++) due(x.match(p, s, cleaned), spots[s]);
    }

    private static void offs(StarPlates x, long... want) {
        for (int s = 0; s < want.length; s++) due(x.off(0, s), want[s]);
    }

    // ---- 15: "UNKNOWN: PLATE, STAR."

    static void p15_match_plateTooSmall_isUNKNOWN() {
        due(Skies.six().match(-1, 0, false), UNKNOWN);
        due(Skies.six().match(-1, 0, true), UNKNOWN);
    }

    static void p15_match_plateTooLarge_isUNKNOWN() {
        due(Skies.six().match(2, 0, false), UNKNOWN);
        due(Skies.six().match(2, 0, true), UNKNOWN);
    }

    static void p15_match_plateFarOutside_isUNKNOWN() {
        for (int wild : WILD) due(Skies.six().match(wild, 0, true), UNKNOWN);
    }

    static void p15_match_starTooSmall_isUNKNOWN() {
        for (int p = 0; p < 2; p++) due(Skies.six().match(p, -1, false), UNKNOWN);
        for (int p = 0; p < 2; p++) due(Skies.six().match(p, -1, true), UNKNOWN);
    }

    static void p15_match_starTooLarge_isUNKNOWN() {
        for (int p = 0; p < 2; p++) due(Skies.six().match(p, 6, false), UNKNOWN);
        for (int p = 0; p < 2; p++) due(Skies.six().match(p, 6, true), UNKNOWN);
        for (int p = 0; p < 2; p++) due(Skies.eight().match(p, 8, true), UNKNOWN);
    }

    static void p15_match_starFarOutside_isUNKNOWN() {
        for (int wild : WILD) due(Skies.six().match(0, wild, false), UNKNOWN);
        for (int wild : WILD) due(Skies.six().match(0, wild, true), UNKNOWN);
    }

    static void p15_match_ofNothing_isUNKNOWN() {
        due(new StarPlates().match(0, 0, false), UNKNOWN);
    }

    static void p15_match_ofAStarThatIsNoMore_isUNKNOWN() {
        StarPlates x = Skies.eight();
        due(x.match(0, 7, true), 7);
        x.unstar();
        due(x.match(0, 7, true), UNKNOWN);
        due(x.match(0, 7, false), UNKNOWN);
    }

    // ---- 15: "NONE: it is in no two"; "have VOTES (1 at least)"

    static void p15_match_withoutSpots_isNONE() {
        matches(Skies.rightAngle(), 0, false, NONE, NONE, NONE);
        matches(Skies.rightAngle(), 1, true, NONE, NONE, NONE);
    }

    static void p15_match_byASecondPlateWithoutSpots_isNONE() {
        StarPlates x = Skies.three(9, 9);
        matches(x, 0, false, 0, 1, 2);
        matches(x, 1, false, NONE, NONE, NONE);
    }

    static void p15_match_withoutVotes_isNONE() {
        // a star and a spot more, of which no triple is alike: both are free, and still no two
        StarPlates x = Skies.pair();
        x.star(5000, 77, 0);
        x.spot(0, 1070, 3000, 0);
        for (int k = 0; k < 4; k++) due(x.votes(0, 3, k), 0);
        matches(x, 0, false, 0, 1, 2, NONE);
        matches(x, 0, true, 0, 1, 2, NONE);
    }

    static void p15_match_ofFLATOnesAlone_isNONE() {
        int[][] peak = {{0, 0}, {10, 0}, {5, 30}};
        StarPlates x = Skies.spots(Skies.stars(peak), 0, peak);
        matches(x, 0, false, NONE, NONE, NONE);
    }

    static void p15_match_byOneVote_isATwo() {
        StarPlates x = Skies.three(9, 9);
        due(x.votes(0, 0, 0), 1);
        matches(x, 0, false, 0, 1, 2);
        matches(x, 0, true, 0, 1, 2);
    }

    static void p15_match_ofTheLargestPlate() {
        StarPlates x = Skies.eight();
        matches(x, 0, false, 0, 1, 2, 3, 4, 5, 6, 7);
        matches(x, 0, true, 0, 1, 2, 3, 4, 5, 6, 7);
        matches(x, 1, false, 7, 6, 5, 4, 3, 2, 1, 0);
        matches(x, 1, true, 7, 6, 5, 4, 3, 2, 1, 0);
    }

    // ---- 15: "the two of the most VOTES; of several that of the least STAR, then of the least SPOT"; "in none yet"

    /** VOTES by star and spot: 0 0 3 1, 0 0 1 1, 1 2 0 0, 1 0 0 2. */
    private static StarPlates voted() {
        StarPlates x = Skies.stars(new int[] {4, 4}, new int[] {2, 1}, new int[] {7, 4}, new int[] {1, 0});
        Skies.spots(x, 0, new int[] {5, 1}, new int[] {5, 0}, new int[] {5, 4}, new int[] {0, 7});
        x.set(0, 17);
        x.set(1, 1000000);
        int[][] votes = {{0, 0, 3, 1}, {0, 0, 1, 1}, {1, 2, 0, 0}, {1, 0, 0, 2}};
        for (int s = 0; s < 4; s++) for (int k = 0; k < 4; k++) due(x.votes(0, s, k), votes[s][k]);
        return x;
    }

    static void p15_match_moreVotesAreAheadOfTheLeastStar() {
        due(voted().match(0, 3, false), 3);
        due(voted().match(0, 1, false), NONE);
    }

    static void p15_match_moreVotesAreAheadOfTheLeastSpot() {
        due(voted().match(0, 2, false), 1);
        due(voted().match(0, 0, false), 2);
    }

    static void p15_match_likeVotes_theLeastSpot() {
        // each star has one vote for a spot of either right angle
        StarPlates x = Skies.spots(Skies.three(0, 0), 0, new int[] {3000, 3000}, new int[] {3300, 3000}, new int[] {3000, 3400});
        x.set(0, 0);
        for (int s = 0; s < 3; s++) due(x.votes(0, s, s), 1);
        for (int s = 0; s < 3; s++) due(x.votes(0, s, s + 3), 1);
        matches(x, 0, false, 0, 1, 2);
    }

    static void p15_match_likeVotes_theLeastStar() {
        StarPlates x = Skies.stars(new int[] {3000, 3000}, new int[] {3300, 3000}, new int[] {3000, 3400}, new int[] {0, 0}, new int[] {3, 0}, new int[] {0, 4});
        Skies.spots(x, 0, new int[] {100, 100}, new int[] {400, 100}, new int[] {100, 500});
        x.set(0, 0);
        for (int s = 0; s < 6; s++) due(x.votes(0, s, s % 3), 1);
        matches(x, 0, false, 0, 1, 2, NONE, NONE, NONE);
    }

    static void p15_match_ofATakenSpot_takesTheNext() {
        // VOTES are 2 1 1 0, 0 0 1 2, 0 0 0 2, 2 0 1 0: spots 0, 3 are taken by the least star
        StarPlates x = Skies.stars(new int[] {1, 6}, new int[] {6, 3}, new int[] {1, 5}, new int[] {5, 1});
        Skies.spots(x, 0, new int[] {4, 0}, new int[] {5, 2}, new int[] {7, 5}, new int[] {5, 0});
        x.set(0, 19);
        due(x.votes(0, 0, 0), 2);
        due(x.votes(0, 3, 0), 2);
        due(x.votes(0, 3, 2), 1);
        due(x.votes(0, 1, 3), 2);
        due(x.votes(0, 2, 3), 2);
        matches(x, 0, false, 0, 3, NONE, 2);
    }

    static void p15_match_takesEachSpotOnce() {
        StarPlates x = Skies.skewed();
        x.set(0, 50);
        int taken = 0;
        for (int s = 0; s < 6; s++) {
            int k = x.match(0, s, false);
            if (k == NONE) continue;
            due(taken >> k & 1, 0);
            taken |= 1 << k;
        }
        due(Integer.bitCount(taken), x.many(3));
    }

    // ---- 15: "the greatest OFF .. is above LIMIT (0 .. 1000000; 100 at first)"

    static void p15_match_limitAtFirst_off100Stays() {
        StarPlates x = Skies.stars(new int[] {200, 250}, new int[] {150, 250}, new int[] {250, 100}, new int[] {100, 50});
        Skies.spots(x, 0, new int[] {300, 350}, new int[] {250, 350}, new int[] {367, 200}, new int[] {200, 150});
        x.set(0, 30);
        due(x.off(0, 2), 100);
        matches(x, 0, true, 0, 1, 2, 3);
        x.set(1, 99);
        matches(x, 0, true, 0, 1, NONE, 3);
    }

    static void p15_match_limitAtFirst_off101IsDropped() {
        StarPlates x = Skies.stars(new int[] {200, 50}, new int[] {0, 0}, new int[] {200, 100}, new int[] {100, 250});
        Skies.spots(x, 0, new int[] {300, 150}, new int[] {129, 100}, new int[] {300, 200}, new int[] {200, 350});
        x.set(0, 30);
        matches(x, 0, false, 0, 1, 2, 3);
        matches(x, 0, true, 0, 1, 2, NONE);
        x.set(1, 101);
        offs(x, 61, 100, 13, 101);
        matches(x, 0, true, 0, 1, 2, 3);
    }

    static void p15_match_offAsLimit_stays() {
        StarPlates x = Skies.skewed();
        x.set(1, 400);
        due(x.off(0, 1), 400);
        matches(x, 0, true, 0, 1, 2, 3, 4, 5);
    }

    static void p15_match_offAboveLimitByOne_isDropped() {
        StarPlates x = Skies.skewed();
        x.set(1, 399);
        matches(x, 0, true, 0, NONE, 2, 3, 4, 5);
    }

    static void p15_match_limit0_off0Stays() {
        StarPlates x = Skies.eight();
        x.set(1, 0);
        for (int p = 0; p < 2; p++) due(x.many(5 + p), 8);
    }

    static void p15_match_limit0_off1IsDropped() {
        StarPlates x = Skies.stars(new int[] {400, 400}, new int[] {500, 400}, new int[] {100, 200}, new int[] {100, 500});
        Skies.spots(x, 0, new int[] {500, 500}, new int[] {602, 500}, new int[] {200, 300}, new int[] {200, 600});
        x.set(0, 10);
        x.set(1, 1);
        due(x.off(0, 1), 1);
        matches(x, 0, true, 0, 1, 2, 3);
        x.set(1, 0);
        matches(x, 0, true, 0, NONE, 2, 3);
    }

    static void p15_match_greatestLimit_offAboveItIsDropped() {
        StarPlates x = Skies.stars(new int[] {2800, 1200}, new int[] {2900, 3000}, new int[] {700, 2800}, new int[] {3400, 1400});
        Skies.spots(x, 0, new int[] {1200, 2300}, new int[] {900, 3200}, new int[] {3200, 2800}, new int[] {3000, 2800});
        x.set(0, 50);
        x.set(1, 1000000);
        matches(x, 0, false, 1, 0, 2, 3);
        matches(x, 0, true, 1, 0, 2, NONE);
    }

    static void p15_match_limitIsNotLookedAtWhereNotCleaned() {
        StarPlates x = Skies.skewed();
        x.set(1, 0);
        matches(x, 0, false, 0, 1, 2, 3, 4, 5);
    }

    // ---- 15: "as long as there are more than two twos"

    static void p15_match_threeTwos_oneMayBeDropped() {
        StarPlates x = Skies.twoLeft();
        matches(x, 0, false, 0, 1, 2);
        matches(x, 0, true, NONE, 1, 2);
        due(x.many(3), 3);
        due(x.many(5), 2);
    }

    static void p15_match_twoTwos_stay() {
        StarPlates x = Skies.skewed();
        x.unspot(0);
        x.unspot(0);
        x.set(1, 0);
        due(x.many(3), 4);
        due(x.many(5), 2);
        matches(x, 0, true, NONE, NONE, 2, NONE, 1);
    }

    // ---- 15: "the greatest OFF (by FIT of those that are left)"; "of several that of the least STAR"

    static void p15_match_offIsByThoseThatAreLeft() {
        // OFF 9, 25, 4, 0 by all four: LIMIT 0 drops star 1, and then all the others are where they should be
        StarPlates x = Skies.stars(new int[] {0, 40}, new int[] {10, 50}, new int[] {50, 50}, new int[] {50, 30});
        Skies.spots(x, 0, new int[] {100, 140}, new int[] {118, 150}, new int[] {150, 150}, new int[] {150, 130});
        x.set(0, 30);
        x.set(1, 1000000);
        offs(x, 9, 25, 4, 0);
        x.set(1, 0);
        matches(x, 0, true, 0, NONE, 2, 3);
        offs(x, 0, LOST, 0, 0);
    }

    static void p15_match_greatestOffIsDroppedFirst() {
        StarPlates x = Skies.skewed();
        x.set(1, 1000000);
        offs(x, 16, 400, 52, 9, 36, 80);
        x.set(1, 8);
        matches(x, 0, true, 0, NONE, 2, 3, 4, 5);
    }

    static void p15_match_likeOff_theLeastStarIsDropped() {
        StarPlates x = Skies.stars(new int[] {20, 20}, new int[] {40, 40}, new int[] {10, 0}, new int[] {40, 10});
        Skies.spots(x, 0, new int[] {120, 118}, new int[] {140, 142}, new int[] {110, 96}, new int[] {140, 112});
        x.set(0, 20);
        offs(x, 2, 5, 0, 5);
        x.set(1, 4);
        matches(x, 0, true, 0, NONE, 2, 3);
    }

    static void p15_match_likeOffOfTheLastTwo_theLeastStarIsDropped() {
        StarPlates x = Skies.stars(new int[] {40, 10}, new int[] {0, 40}, new int[] {10, 30}, new int[] {20, 10});
        Skies.spots(x, 0, new int[] {140, 110}, new int[] {96, 140}, new int[] {108, 126}, new int[] {120, 110});
        x.set(0, 20);
        offs(x, 0, 4, 5, 5);
        x.set(1, 4);
        matches(x, 0, true, 0, 1, NONE, 3);
    }

    static void p15_match_aDroppedSpotGoesToNoOther() {
        // star 3 has a vote for spot 0, which star 2 has in MATCH
        StarPlates x = Skies.stars(new int[] {0, 1}, new int[] {1, 3}, new int[] {1, 6}, new int[] {5, 7});
        Skies.spots(x, 0, new int[] {0, 6}, new int[] {4, 4}, new int[] {1, 1}, new int[] {7, 1});
        x.set(0, 16);
        x.set(1, 0);
        due(x.votes(0, 3, 0), 1);
        matches(x, 0, false, 3, 1, 0, NONE);
        matches(x, 0, true, 3, 1, NONE, NONE);
    }

    static void p15_match_eachPlateIsCleanedByItself() {
        StarPlates x = Skies.skewed();
        for (int s = 0; s < 6; s++) x.spot(1, 2000 + Skies.SIX[s][0], 2000 + Skies.SIX[s][1], 0);
        matches(x, 0, true, 0, NONE, 2, 3, 4, 5);
        matches(x, 1, true, 0, 1, 2, 3, 4, 5);
        matches(x, 0, true, 0, NONE, 2, 3, 4, 5);
    }

    static void p15_match_isByHowAllIsWhenAsked() {
        isByHowAllIs((x, answers) -> {
            for (int p = 0; p < 2; p++) for (int s = 0; s < 6; s++) answers.add((long) x.match(p, s, false));
        });
    }

    static void p15_match_cleanedIsByHowAllIsWhenAsked() {
        isByHowAllIs((x, answers) -> {
            for (int p = 0; p < 2; p++) for (int s = 0; s < 6; s++) answers.add((long) x.match(p, s, true));
        });
    }
}
