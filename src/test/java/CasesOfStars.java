/** Promises 1, 2, 3, 6, 11: a new object, stars, settings. */
final class CasesOfStars extends Case {
    private CasesOfStars() { }

    private static StarPlates full() {
        StarPlates x = new StarPlates();
        for (int s = 0; s < 8; s++) x.star(10 * s, 0, s);
        return x;
    }

    // ---- 1: "No STARS, SPOTS, COPIES, TRAYS."; what a setting is "at first"

    static void p01_new_hasNoStar() {
        due(new StarPlates().many(0), 0);
        due(new StarPlates().ofStar(0, 0), UNKNOWN);
    }

    static void p01_new_hasNoSpotOnPlate0() {
        due(new StarPlates().many(1), 0);
        due(new StarPlates().ofSpot(0, 0, 0), UNKNOWN);
    }

    static void p01_new_hasNoSpotOnPlate1() {
        due(new StarPlates().many(2), 0);
        due(new StarPlates().ofSpot(1, 0, 0), UNKNOWN);
    }

    static void p01_new_hasNoCopy() {
        due(new StarPlates().many(8), 0);
        for (int copy = 0; copy < 2; copy++) due(new StarPlates().restore(0, copy), STATE);
    }

    static void p01_new_hasNoTray() {
        due(new StarPlates().many(7), 0);
        for (int t = 0; t < 3; t++) due(new StarPlates().seen(t, 0), MISSING);
    }

    static void p01_new_hasNoTwosOfMatchOrCleaned() {
        for (int what = 3; what < 7; what++) due(new StarPlates().many(what), 0);
    }

    static void p01_new_hasSlack2() {
        due(new StarPlates().set(0, 50), 2);
    }

    static void p01_new_hasLimit100() {
        due(new StarPlates().set(1, 1), 100);
    }

    static void p01_new_hasReach40000() {
        due(new StarPlates().set(2, 1), 40000);
    }

    static void p01_new_hasBlink40() {
        due(new StarPlates().set(3, 1), 40);
    }

    static void p01_new_isAsNewBesideAnother() {
        StarPlates other = Skies.rich();
        StarPlates x = new StarPlates();
        for (int what = 0; what < 9; what++) due(x.many(what), 0);
        due(x.set(0, 9), 2);
        due(other.set(0, 9), 3);
        x.star(1, 1, 1);
        due(other.many(0), 6);
    }

    static void p01_new_isNewBehind512CallsOfAnother() {
        StarPlates other = new StarPlates();
        for (int call = 0; call < 512; call++) other.star(call, call, 0);
        due(other.many(0), 8);
        due(new StarPlates().many(0), 0);
    }

    static void p01_new_answersThe512thCall() {
        StarPlates x = Skies.eight();
        for (int call = 25; call < 512; call++) due(x.ofStar(call % 8, 2), 10 * (call % 8));
        due(x.mover(-1, 0), 0);
        x = Skies.eight();
        for (int call = 25; call < 512; call++) x.match(call % 2, call % 8, true);
        due(x.both(), 255);
    }

    // ---- 2: "at x, y (-9999 .. 9999 both)"

    static void p02_star_xTooSmall_isOUTSIDE() {
        due(new StarPlates().star(-10000, 0, 0), OUTSIDE);
    }

    static void p02_star_xTooLarge_isOUTSIDE() {
        due(new StarPlates().star(10000, 0, 0), OUTSIDE);
    }

    static void p02_star_yTooSmall_isOUTSIDE() {
        due(new StarPlates().star(0, -10000, 0), OUTSIDE);
    }

    static void p02_star_yTooLarge_isOUTSIDE() {
        due(new StarPlates().star(0, 10000, 0), OUTSIDE);
    }

    static void p02_star_xFarOutside_isOUTSIDE() {
        for (int wild : WILD) due(new StarPlates().star(wild, 0, 0), OUTSIDE);
    }

    static void p02_star_yFarOutside_isOUTSIDE() {
        for (int wild : WILD) due(new StarPlates().star(0, wild, 0), OUTSIDE);
    }

    static void p02_star_xLeast_isTaken() {
        StarPlates x = new StarPlates();
        due(x.star(-9999, 5, 0), 0);
        due(x.ofStar(0, 0), 1);
    }

    static void p02_star_xGreatest_isTaken() {
        StarPlates x = new StarPlates();
        due(x.star(9999, 5, 0), 0);
        due(x.ofStar(0, 0), 19999);
    }

    static void p02_star_yLeast_isTaken() {
        StarPlates x = new StarPlates();
        due(x.star(5, -9999, 0), 0);
        due(x.ofStar(0, 1), 1);
    }

    static void p02_star_yGreatest_isTaken() {
        StarPlates x = new StarPlates();
        due(x.star(5, 9999, 0), 0);
        due(x.ofStar(0, 1), 19999);
    }

    // ---- 2: "of a MAGNITUDE (0 .. 999"

    static void p02_star_magnitudeTooSmall_isOUTSIDE() {
        due(new StarPlates().star(0, 0, -1), OUTSIDE);
    }

    static void p02_star_magnitudeTooLarge_isOUTSIDE() {
        due(new StarPlates().star(0, 0, 1000), OUTSIDE);
    }

    static void p02_star_magnitudeFarOutside_isOUTSIDE() {
        for (int wild : WILD) due(new StarPlates().star(0, 0, wild), OUTSIDE);
    }

    static void p02_star_magnitudeLeast_isTaken() {
        StarPlates x = new StarPlates();
        due(x.star(0, 0, 0), 0);
        due(x.ofStar(0, 2), 0);
    }

    static void p02_star_magnitudeGreatest_isTaken() {
        StarPlates x = new StarPlates();
        due(x.star(0, 0, 999), 0);
        due(x.ofStar(0, 2), 999);
    }

    // ---- 2: "8 at most, numbered by how many there are ahead"; "FULL"

    static void p02_star_isNumberedByHowManyAreAhead() {
        StarPlates x = new StarPlates();
        for (int s = 0; s < 8; s++) due(x.star(s, -s, 7 * s), s);
        for (int s = 0; s < 8; s++) due(x.ofStar(s, 1), 10000 - s);
        due(x.many(0), 8);
    }

    static void p02_star_eighth_isTaken() {
        StarPlates x = full();
        x.unstar();
        due(x.star(1, 1, 1), 7);
    }

    static void p02_star_ninth_isFULL() {
        due(full().star(1, 1, 1), FULL);
    }

    static void p02_star_refusedOnesDoNotCount() {
        StarPlates x = new StarPlates();
        x.star(0, 0, 1000);
        due(x.star(0, 0, 0), 0);
        x.star(0, 0, 5);
        due(x.star(0, 1, 0), 1);
    }

    // ---- 2: "No two STARS .. are at one place"; "STATE: there is one at that place"

    static void p02_star_atAStarsPlace_isSTATE() {
        StarPlates x = full();
        x.unstar();
        for (int s = 0; s < 7; s++) due(x.star(10 * s, 0, 500), STATE);
    }

    static void p02_star_withAStarsXAlone_isTaken() {
        due(Skies.stars(new int[] {3, 4}).star(3, 5, 0), 1);
    }

    static void p02_star_withAStarsYAlone_isTaken() {
        due(Skies.stars(new int[] {3, 4}).star(2, 4, 0), 1);
    }

    static void p02_star_withXAndYOfTwoStars_isTaken() {
        due(Skies.stars(new int[] {3, 4}, new int[] {5, 6}).star(3, 6, 0), 2);
    }

    static void p02_star_withXAndYExchanged_isTaken() {
        due(Skies.stars(new int[] {3, 4}).star(4, 3, 0), 1);
    }

    static void p02_star_withSignsExchanged_isTaken() {
        due(Skies.stars(new int[] {3, 4}).star(-3, -4, 0), 1);
    }

    static void p02_star_atASpotsPlace_isTaken() {
        StarPlates x = new StarPlates();
        x.spot(0, 3, 4, 0);
        x.spot(1, 3, 4, 0);
        due(x.star(3, 4, 0), 0);
    }

    // ---- 2: "OUTSIDE; STATE ..; FULL", in that order; "they change nothing"

    static void p02_star_OUTSIDEIsAheadOfSTATE() {
        StarPlates x = Skies.stars(new int[] {3, 4});
        due(x.star(3, 4, 1000), OUTSIDE);
        due(x.star(3, 4, -1), OUTSIDE);
    }

    static void p02_star_OUTSIDEIsAheadOfFULL() {
        due(full().star(10000, 1, 1), OUTSIDE);
        due(full().star(1, -10000, 1), OUTSIDE);
        due(full().star(1, 1, 1000), OUTSIDE);
    }

    static void p02_star_STATEIsAheadOfFULL() {
        for (int s = 0; s < 8; s++) due(full().star(10 * s, 0, 1), STATE);
    }

    static void p02_star_OUTSIDE_changesNothing() {
        changesNothing(x -> due(x.star(10000, 0, 0), OUTSIDE));
    }

    static void p02_star_STATE_changesNothing() {
        changesNothing(x -> due(x.star(0, 0, 999), STATE));
    }

    static void p02_star_FULL_changesNothing() {
        changesNothingOfFull(x -> due(x.star(7, 7, 7), FULL));
    }

    // ---- 3: "The last STAR is no more: how many are left. STATE: there is none."

    static void p03_unstar_ofNone_isSTATE() {
        due(new StarPlates().unstar(), STATE);
    }

    static void p03_unstar_ofNoneBesideSpots_isSTATE() {
        StarPlates x = new StarPlates();
        x.spot(0, 1, 1, 1);
        due(x.unstar(), STATE);
        due(x.many(1), 1);
    }

    static void p03_unstar_ofTheOnlyOne_is0() {
        StarPlates x = Skies.stars(new int[] {3, 4});
        due(x.unstar(), 0);
        due(x.unstar(), STATE);
        due(x.many(0), 0);
    }

    static void p03_unstar_tellsHowManyAreLeft() {
        StarPlates x = full();
        for (int left = 7; left >= 0; left--) due(x.unstar(), left);
    }

    static void p03_unstar_takesTheLast() {
        StarPlates x = Skies.stars(new int[] {1, 2}, new int[] {3, 4}, new int[] {5, 6});
        due(x.unstar(), 2);
        due(x.ofStar(0, 0), 10001);
        due(x.ofStar(1, 0), 10003);
        due(x.ofStar(2, 0), UNKNOWN);
    }

    static void p03_unstar_makesRoomWhereItWasFull() {
        StarPlates x = full();
        due(x.star(1, 1, 1), FULL);
        x.unstar();
        due(x.star(1, 1, 1), 7);
        due(x.star(2, 2, 2), FULL);
    }

    static void p03_unstar_makesItsPlaceFree() {
        StarPlates x = Skies.stars(new int[] {1, 2}, new int[] {3, 4});
        x.unstar();
        due(x.star(3, 4, 9), 1);
        due(x.ofStar(1, 2), 9);
    }

    static void p03_unstar_leavesSpotsAndTrays() {
        StarPlates x = Skies.rich();
        x.unstar();
        due(x.many(1), 6);
        due(x.many(2), 6);
        due(x.seen(0, 1), 4);
    }

    static void p03_unstar_STATE_changesNothing() {
        StarPlates x = new StarPlates();
        for (int call = 0; call < 3; call++) due(x.unstar(), STATE);
        due(x.star(5, 5, 5), 0);
        due(x.many(0), 1);
    }

    // ---- 6: "0 x, 1 y (both with 10000 more), 2 MAGNITUDE. UNKNOWN; OUTSIDE."

    static void p06_ofStar_xAndYHave10000More() {
        StarPlates x = Skies.stars(new int[] {0, 0}, new int[] {-1, 1}, new int[] {7, -8});
        due(x.ofStar(0, 0), 10000);
        due(x.ofStar(0, 1), 10000);
        due(x.ofStar(1, 0), 9999);
        due(x.ofStar(1, 1), 10001);
        due(x.ofStar(2, 0), 10007);
        due(x.ofStar(2, 1), 9992);
    }

    static void p06_ofStar_leastPlace_is1() {
        StarPlates x = Skies.stars(new int[] {-9999, -9999});
        due(x.ofStar(0, 0), 1);
        due(x.ofStar(0, 1), 1);
    }

    static void p06_ofStar_greatestPlace_is19999() {
        StarPlates x = Skies.stars(new int[] {9999, 9999});
        due(x.ofStar(0, 0), 19999);
        due(x.ofStar(0, 1), 19999);
    }

    static void p06_ofStar_magnitudeHasNothingMore() {
        StarPlates x = new StarPlates();
        x.star(1, 2, 0);
        x.star(2, 2, 999);
        due(x.ofStar(0, 2), 0);
        due(x.ofStar(1, 2), 999);
    }

    static void p06_ofStar_starTooSmall_isUNKNOWN() {
        due(full().ofStar(-1, 0), UNKNOWN);
    }

    static void p06_ofStar_starTooLarge_isUNKNOWN() {
        due(full().ofStar(8, 0), UNKNOWN);
        due(Skies.stars(new int[] {3, 4}).ofStar(1, 0), UNKNOWN);
    }

    static void p06_ofStar_starFarOutside_isUNKNOWN() {
        for (int wild : WILD) due(full().ofStar(wild, 0), UNKNOWN);
    }

    static void p06_ofStar_ofNone_isUNKNOWN() {
        due(new StarPlates().ofStar(0, 2), UNKNOWN);
    }

    static void p06_ofStar_ofOneThatIsNoMore_isUNKNOWN() {
        StarPlates x = full();
        x.unstar();
        due(x.ofStar(7, 0), UNKNOWN);
        due(x.ofStar(6, 0), 10060);
    }

    static void p06_ofStar_lastOfEight() {
        due(full().ofStar(7, 0), 10070);
    }

    static void p06_ofStar_whatTooSmall_isOUTSIDE() {
        due(full().ofStar(0, -1), OUTSIDE);
    }

    static void p06_ofStar_whatTooLarge_isOUTSIDE() {
        due(full().ofStar(0, 3), OUTSIDE);
    }

    static void p06_ofStar_whatFarOutside_isOUTSIDE() {
        for (int wild : WILD) due(full().ofStar(0, wild), OUTSIDE);
    }

    static void p06_ofStar_UNKNOWNIsAheadOfOUTSIDE() {
        due(full().ofStar(8, 3), UNKNOWN);
        due(full().ofStar(-1, -1), UNKNOWN);
    }

    // ---- 11: "SLACK (0 .. 50", "LIMIT (0 .. 1000000", "REACH (0 .. 10000000", "BLINK (1 .. 255"; "OUTSIDE"

    private static void isRefused(int what, int v) {
        StarPlates x = new StarPlates();
        due(x.set(what, v), OUTSIDE);
        due(x.set(0, 0), 2);
        due(x.set(1, 0), 100);
        due(x.set(2, 0), 40000);
        due(x.set(3, 1), 40);
    }

    private static void isTaken(int what, int v) {
        StarPlates x = new StarPlates();
        x.set(what, v);
        due(x.set(what, 1), v);
    }

    static void p11_set_slackTooSmall_isOUTSIDE() {
        isRefused(0, -1);
    }

    static void p11_set_slackTooLarge_isOUTSIDE() {
        isRefused(0, 51);
    }

    static void p11_set_slackLeast_isTaken() {
        isTaken(0, 0);
    }

    static void p11_set_slackGreatest_isTaken() {
        isTaken(0, 50);
    }

    static void p11_set_limitTooSmall_isOUTSIDE() {
        isRefused(1, -1);
    }

    static void p11_set_limitTooLarge_isOUTSIDE() {
        isRefused(1, 1000001);
    }

    static void p11_set_limitLeast_isTaken() {
        isTaken(1, 0);
    }

    static void p11_set_limitGreatest_isTaken() {
        isTaken(1, 1000000);
    }

    static void p11_set_reachTooSmall_isOUTSIDE() {
        isRefused(2, -1);
    }

    static void p11_set_reachTooLarge_isOUTSIDE() {
        isRefused(2, 10000001);
    }

    static void p11_set_reachLeast_isTaken() {
        isTaken(2, 0);
    }

    static void p11_set_reachGreatest_isTaken() {
        isTaken(2, 10000000);
    }

    static void p11_set_blinkTooSmall_isOUTSIDE() {
        isRefused(3, 0);
        isRefused(3, -1);
    }

    static void p11_set_blinkTooLarge_isOUTSIDE() {
        isRefused(3, 256);
    }

    static void p11_set_blinkLeast_isTaken() {
        isTaken(3, 1);
    }

    static void p11_set_blinkGreatest_isTaken() {
        isTaken(3, 255);
    }

    static void p11_set_whatTooSmall_isOUTSIDE() {
        isRefused(-1, 1);
    }

    static void p11_set_whatTooLarge_isOUTSIDE() {
        isRefused(4, 1);
    }

    static void p11_set_whatFarOutside_isOUTSIDE() {
        for (int wild : WILD) isRefused(wild, 1);
    }

    static void p11_set_farOutside_isOUTSIDE() {
        for (int what = 0; what < 4; what++) for (int wild : WILD) isRefused(what, wild);
    }

    static void p11_set_tellsWhatItWas() {
        StarPlates x = new StarPlates();
        int[] before = {2, 100, 40000, 40};
        for (int what = 0; what < 4; what++) {
            due(x.set(what, 11 + what), before[what]);
            due(x.set(what, 21 + what), 11 + what);
            due(x.set(what, 21 + what), 21 + what);
        }
    }

    static void p11_set_leavesTheOthers() {
        StarPlates x = new StarPlates();
        for (int what = 0; what < 4; what++) x.set(what, 31 + what);
        for (int what = 0; what < 4; what++) due(x.set(what, 1), 31 + what);
    }

    static void p11_set_OUTSIDE_changesNothing() {
        changesNothing(x -> {
            due(x.set(0, 51), OUTSIDE);
            due(x.set(1, 1000001), OUTSIDE);
            due(x.set(2, 10000001), OUTSIDE);
            due(x.set(3, 0), OUTSIDE);
            due(x.set(4, 7), OUTSIDE);
        });
    }
}
