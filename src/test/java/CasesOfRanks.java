/** Promise 19: ranks of magnitude against light. */
final class CasesOfRanks extends Case {
    private CasesOfRanks() { }

    /** Three stars of given magnitudes, and their spots on both plates, of given lights. */
    private static StarPlates ranked(int[] magnitudes, int[] lights) {
        StarPlates x = new StarPlates();
        int[][] places = {{0, 0}, {300, 0}, {0, 400}};
        for (int s = 0; s < 3; s++) x.star(places[s][0], places[s][1], magnitudes[s]);
        for (int p = 0; p < 2; p++) for (int s = 0; s < 3; s++) x.spot(p, 1000 + places[s][0], 1000 + places[s][1], lights[s]);
        return x;
    }

    private static void wrong(StarPlates x, int howMany, int odd) {
        for (int p = 0; p < 2; p++) {
            due(x.wrong(p, 0), howMany);
            due(x.wrong(p, 1), odd);
        }
    }

    // ---- 19: "UNKNOWN; OUTSIDE."

    static void p19_wrong_plateTooSmall_isUNKNOWN() {
        due(Skies.six().wrong(-1, 0), UNKNOWN);
    }

    static void p19_wrong_plateTooLarge_isUNKNOWN() {
        due(Skies.six().wrong(2, 0), UNKNOWN);
    }

    static void p19_wrong_plateFarOutside_isUNKNOWN() {
        for (int wild : WILD) due(Skies.six().wrong(wild, 0), UNKNOWN);
    }

    static void p19_wrong_whatTooSmall_isOUTSIDE() {
        for (int p = 0; p < 2; p++) due(Skies.six().wrong(p, -1), OUTSIDE);
    }

    static void p19_wrong_whatTooLarge_isOUTSIDE() {
        for (int p = 0; p < 2; p++) due(Skies.six().wrong(p, 2), OUTSIDE);
        due(new StarPlates().wrong(0, 2), OUTSIDE);
    }

    static void p19_wrong_whatFarOutside_isOUTSIDE() {
        for (int wild : WILD) due(Skies.six().wrong(0, wild), OUTSIDE);
    }

    static void p19_wrong_UNKNOWNIsAheadOfOUTSIDE() {
        due(Skies.six().wrong(2, 2), UNKNOWN);
        due(Skies.six().wrong(-1, -1), UNKNOWN);
    }

    // ---- 19: "How many twos of STARS are WRONG (what 0), ODD (1; NONE: none is)."

    static void p19_wrong_ofNothing() {
        wrong(new StarPlates(), 0, NONE);
    }

    static void p19_wrong_ofStarsInNoTwo() {
        wrong(Skies.rightAngle(), 0, NONE);
    }

    static void p19_wrong_ofRanksAsTheyShouldBe() {
        wrong(ranked(new int[] {1, 2, 3}, new int[] {30, 20, 10}), 0, NONE);
        wrong(Skies.six(), 0, NONE);
    }

    static void p19_wrong_ofOneTwo() {
        wrong(ranked(new int[] {1, 2, 3}, new int[] {30, 10, 20}), 1, 1);
        wrong(ranked(new int[] {3, 2, 1}, new int[] {20, 10, 30}), 1, 0);
    }

    static void p19_wrong_ofAllTwos() {
        wrong(ranked(new int[] {1, 2, 3}, new int[] {10, 20, 30}), 3, 0);
    }

    static void p19_wrong_byTheLeastDifference() {
        wrong(ranked(new int[] {0, 1, 999}, new int[] {254, 255, 0}), 1, 0);
    }

    static void p19_wrong_leastAndGreatest() {
        wrong(ranked(new int[] {999, 0, 500}, new int[] {255, 0, 100}), 3, 0);
    }

    // ---- 19: "the one has the lesser MAGNITUDE, and its SPOT the lesser LIGHT"

    static void p19_wrong_likeMagnitudes_areNotWrong() {
        wrong(ranked(new int[] {5, 5, 5}, new int[] {10, 20, 30}), 0, NONE);
        wrong(ranked(new int[] {5, 5, 5}, new int[] {30, 20, 10}), 0, NONE);
    }

    static void p19_wrong_likeLights_areNotWrong() {
        wrong(ranked(new int[] {1, 2, 3}, new int[] {50, 50, 50}), 0, NONE);
        wrong(ranked(new int[] {3, 2, 1}, new int[] {50, 50, 50}), 0, NONE);
    }

    static void p19_wrong_likeMagnitudesAndLights_areNotWrong() {
        wrong(ranked(new int[] {5, 5, 5}, new int[] {50, 50, 50}), 0, NONE);
    }

    static void p19_wrong_isTheSameWhicheverStarIsFirst() {
        wrong(ranked(new int[] {9, 1, 5}, new int[] {90, 10, 5}), 2, 0);
        wrong(ranked(new int[] {1, 9, 5}, new int[] {10, 90, 5}), 2, 1);
    }

    // ---- 19: "twos of STARS in CLEANED"

    static void p19_wrong_aDroppedStarIsInNone() {
        StarPlates x = Skies.skewed();
        x.light(0, 1, x.word(63));
        due(x.match(0, 1, false), 1);
        due(x.wrong(0, 0), 0);
        due(x.wrong(0, 1), NONE);
    }

    static void p19_wrong_aStarThatIsNotDroppedIsInThem() {
        // star 1, of magnitude 300, has light 252: more than those of magnitudes 100, 50, 200
        StarPlates x = Skies.skewed();
        x.light(0, 1, x.word(63));
        x.set(1, 1000000);
        due(x.wrong(0, 0), 3);
        due(x.wrong(0, 1), 1);
    }

    static void p19_wrong_aStarInNoTwoIsInNone() {
        StarPlates x = ranked(new int[] {1, 2, 3}, new int[] {30, 20, 10});
        x.star(5000, 77, 0);
        x.spot(0, 1070, 3000, 5);
        due(x.match(0, 3, true), NONE);
        due(x.wrong(0, 0), 0);
    }

    static void p19_wrong_eachPlateHasItsOwn() {
        StarPlates x = ranked(new int[] {1, 2, 3}, new int[] {30, 20, 10});
        x.light(1, 2, x.word(10));
        due(x.wrong(0, 0), 0);
        due(x.wrong(1, 0), 2);
        due(x.wrong(1, 1), 2);
        due(x.wrong(0, 1), NONE);
    }

    static void p19_wrong_theLightIsThatOfTheStarsSpot() {
        // the spots of plate 1 are the other way round
        StarPlates x = Skies.eight();
        due(x.wrong(1, 0), 0);
        x.light(1, 0, x.word(63));
        due(x.wrong(1, 0), 7);
        due(x.wrong(1, 1), 7);
    }

    // ---- 19: "ODD: the STAR that is in most of them; of several the least."

    static void p19_wrong_oddIsInMost() {
        wrong(ranked(new int[] {2, 3, 1}, new int[] {20, 10, 5}), 2, 2);
        wrong(ranked(new int[] {2, 1, 3}, new int[] {20, 5, 10}), 2, 1);
    }

    static void p19_wrong_ofSeveralOddTheLeast() {
        wrong(ranked(new int[] {1, 2, 3}, new int[] {30, 10, 20}), 1, 1);
        wrong(ranked(new int[] {1, 2, 3}, new int[] {20, 30, 10}), 1, 0);
    }

    static void p19_wrong_ofEightStars_are28() {
        StarPlates x = Skies.eight();
        for (int k = 0; k < 8; k++) x.light(0, k, x.word(k + 1));
        due(x.wrong(0, 0), 28);
        due(x.wrong(0, 1), 0);
    }

    static void p19_wrong_isByHowAllIsWhenAsked() {
        isByHowAllIs((x, answers) -> {
            for (int p = 0; p < 2; p++) for (int what = 0; what < 2; what++) answers.add((long) x.wrong(p, what));
        });
    }
}
