/** Promises 4, 5, 7: spots. */
final class CasesOfSpots extends Case {
    private CasesOfSpots() { }

    /** Eight spots on a plate, none on the other. */
    private static StarPlates full(int p) {
        StarPlates x = new StarPlates();
        for (int k = 0; k < 8; k++) x.spot(p, 10 * k, 0, k);
        return x;
    }

    private static StarPlates one(int p, int atX, int atY, int light) {
        StarPlates x = new StarPlates();
        x.spot(p, atX, atY, light);
        return x;
    }

    // ---- 4: "PLATES 0, 1"; "UNKNOWN"

    static void p04_spot_plateTooSmall_isUNKNOWN() {
        due(new StarPlates().spot(-1, 0, 0, 0), UNKNOWN);
    }

    static void p04_spot_plateTooLarge_isUNKNOWN() {
        due(new StarPlates().spot(2, 0, 0, 0), UNKNOWN);
    }

    static void p04_spot_plateFarOutside_isUNKNOWN() {
        for (int wild : WILD) due(new StarPlates().spot(wild, 0, 0, 0), UNKNOWN);
    }

    static void p04_spot_eitherPlateTakesOne() {
        StarPlates x = new StarPlates();
        due(x.spot(0, 1, 2, 3), 0);
        due(x.spot(1, 4, 5, 6), 0);
        due(x.ofSpot(0, 0, 0), 1);
        due(x.ofSpot(1, 0, 0), 4);
    }

    // ---- 4: "at x, y (0 .. 4095 both)"

    static void p04_spot_xTooSmall_isOUTSIDE() {
        for (int p = 0; p < 2; p++) due(new StarPlates().spot(p, -1, 0, 0), OUTSIDE);
    }

    static void p04_spot_xTooLarge_isOUTSIDE() {
        for (int p = 0; p < 2; p++) due(new StarPlates().spot(p, 4096, 0, 0), OUTSIDE);
    }

    static void p04_spot_yTooSmall_isOUTSIDE() {
        for (int p = 0; p < 2; p++) due(new StarPlates().spot(p, 0, -1, 0), OUTSIDE);
    }

    static void p04_spot_yTooLarge_isOUTSIDE() {
        for (int p = 0; p < 2; p++) due(new StarPlates().spot(p, 0, 4096, 0), OUTSIDE);
    }

    static void p04_spot_xFarOutside_isOUTSIDE() {
        for (int wild : WILD) due(new StarPlates().spot(0, wild, 0, 0), OUTSIDE);
    }

    static void p04_spot_yFarOutside_isOUTSIDE() {
        for (int wild : WILD) due(new StarPlates().spot(1, 0, wild, 0), OUTSIDE);
    }

    static void p04_spot_xLeast_isTaken() {
        StarPlates x = new StarPlates();
        due(x.spot(0, 0, 9, 9), 0);
        due(x.ofSpot(0, 0, 0), 0);
    }

    static void p04_spot_xGreatest_isTaken() {
        StarPlates x = new StarPlates();
        due(x.spot(0, 4095, 9, 9), 0);
        due(x.ofSpot(0, 0, 0), 4095);
    }

    static void p04_spot_yLeast_isTaken() {
        StarPlates x = new StarPlates();
        due(x.spot(1, 9, 0, 9), 0);
        due(x.ofSpot(1, 0, 1), 0);
    }

    static void p04_spot_yGreatest_isTaken() {
        StarPlates x = new StarPlates();
        due(x.spot(1, 9, 4095, 9), 0);
        due(x.ofSpot(1, 0, 1), 4095);
    }

    // ---- 4: "of a LIGHT (0 .. 255)"

    static void p04_spot_lightTooSmall_isOUTSIDE() {
        for (int p = 0; p < 2; p++) due(new StarPlates().spot(p, 0, 0, -1), OUTSIDE);
    }

    static void p04_spot_lightTooLarge_isOUTSIDE() {
        for (int p = 0; p < 2; p++) due(new StarPlates().spot(p, 0, 0, 256), OUTSIDE);
    }

    static void p04_spot_lightFarOutside_isOUTSIDE() {
        for (int wild : WILD) due(new StarPlates().spot(0, 0, 0, wild), OUTSIDE);
    }

    static void p04_spot_lightLeast_isTaken() {
        StarPlates x = new StarPlates();
        due(x.spot(0, 1, 1, 0), 0);
        due(x.ofSpot(0, 0, 2), 0);
    }

    static void p04_spot_lightGreatest_isTaken() {
        StarPlates x = new StarPlates();
        due(x.spot(0, 1, 1, 255), 0);
        due(x.ofSpot(0, 0, 2), 255);
    }

    // ---- 4: "each has SPOTS, 8 at most, numbered by how many there are ahead"; "FULL"

    static void p04_spot_isNumberedByHowManyAreAhead() {
        StarPlates x = new StarPlates();
        for (int k = 0; k < 8; k++) for (int p = 0; p < 2; p++) due(x.spot(p, k, 100 * p + k, 9 * k), k);
        for (int k = 0; k < 8; k++) for (int p = 0; p < 2; p++) due(x.ofSpot(p, k, 1), 100 * p + k);
    }

    static void p04_spot_eighth_isTaken() {
        for (int p = 0; p < 2; p++) {
            StarPlates x = full(p);
            x.unspot(p);
            due(x.spot(p, 1, 1, 1), 7);
        }
    }

    static void p04_spot_ninth_isFULL() {
        for (int p = 0; p < 2; p++) due(full(p).spot(p, 1, 1, 1), FULL);
    }

    static void p04_spot_ofAnEmptyPlateBesideAFullOne_isTaken() {
        for (int p = 0; p < 2; p++) due(full(p).spot(1 - p, 1, 1, 1), 0);
    }

    static void p04_spot_ninthOfBothPlatesTogether_isTaken() {
        StarPlates x = new StarPlates();
        for (int k = 0; k < 5; k++) for (int p = 0; p < 2; p++) due(x.spot(p, k, k, 0), k);
    }

    static void p04_spot_besideEightStars_isTaken() {
        StarPlates x = new StarPlates();
        for (int s = 0; s < 8; s++) x.star(s, s, 0);
        due(x.spot(0, 50, 50, 0), 0);
    }

    // ---- 4: "no two SPOTS of a PLATE are at one place"; "STATE: there is one at that place"

    static void p04_spot_atASpotsPlace_isSTATE() {
        for (int p = 0; p < 2; p++) {
            StarPlates x = full(p);
            x.unspot(p);
            for (int k = 0; k < 7; k++) due(x.spot(p, 10 * k, 0, 99), STATE);
        }
    }

    static void p04_spot_atAPlaceOfTheOtherPlate_isTaken() {
        due(one(0, 7, 8, 9).spot(1, 7, 8, 9), 0);
        due(one(1, 7, 8, 9).spot(0, 7, 8, 9), 0);
    }

    static void p04_spot_withASpotsXAlone_isTaken() {
        due(one(0, 7, 8, 9).spot(0, 7, 9, 9), 1);
    }

    static void p04_spot_withASpotsYAlone_isTaken() {
        due(one(0, 7, 8, 9).spot(0, 8, 8, 9), 1);
    }

    static void p04_spot_withXAndYOfTwoSpots_isTaken() {
        StarPlates x = one(0, 7, 8, 9);
        x.spot(0, 17, 18, 9);
        due(x.spot(0, 7, 18, 9), 2);
    }

    static void p04_spot_withXAndYExchanged_isTaken() {
        due(one(1, 7, 8, 9).spot(1, 8, 7, 9), 1);
    }

    static void p04_spot_atAStarsPlace_isTaken() {
        due(Skies.stars(new int[] {7, 8}).spot(0, 7, 8, 9), 0);
    }

    // ---- 4: "UNKNOWN; OUTSIDE; STATE ..; FULL", in that order; "they change nothing"

    static void p04_spot_UNKNOWNIsAheadOfOUTSIDE() {
        due(new StarPlates().spot(2, -1, 0, 0), UNKNOWN);
        due(new StarPlates().spot(-1, 0, 4096, 0), UNKNOWN);
        due(new StarPlates().spot(2, 0, 0, 256), UNKNOWN);
    }

    static void p04_spot_UNKNOWNIsAheadOfSTATE() {
        due(one(1, 7, 8, 9).spot(2, 7, 8, 9), UNKNOWN);
        due(one(0, 7, 8, 9).spot(-1, 7, 8, 9), UNKNOWN);
    }

    static void p04_spot_UNKNOWNIsAheadOfFULL() {
        due(full(1).spot(2, 1, 1, 1), UNKNOWN);
        due(full(0).spot(-1, 1, 1, 1), UNKNOWN);
    }

    static void p04_spot_OUTSIDEIsAheadOfSTATE() {
        due(one(0, 7, 8, 9).spot(0, 7, 8, 256), OUTSIDE);
        due(one(0, 7, 8, 9).spot(0, 7, 8, -1), OUTSIDE);
    }

    static void p04_spot_OUTSIDEIsAheadOfFULL() {
        due(full(0).spot(0, 4096, 1, 1), OUTSIDE);
        due(full(0).spot(0, 1, -1, 1), OUTSIDE);
        due(full(1).spot(1, 1, 1, 256), OUTSIDE);
    }

    static void p04_spot_STATEIsAheadOfFULL() {
        for (int p = 0; p < 2; p++) for (int k = 0; k < 8; k++) due(full(p).spot(p, 10 * k, 0, 1), STATE);
    }

    static void p04_spot_UNKNOWN_changesNothing() {
        changesNothing(x -> due(x.spot(2, 1, 1, 1), UNKNOWN));
    }

    static void p04_spot_OUTSIDE_changesNothing() {
        changesNothing(x -> due(x.spot(1, 1, 4096, 1), OUTSIDE));
    }

    static void p04_spot_STATE_changesNothing() {
        changesNothing(x -> due(x.spot(0, 2000, 2000, 1), STATE));
    }

    static void p04_spot_FULL_changesNothing() {
        changesNothingOfFull(x -> due(x.spot(1, 1, 1, 1), FULL));
    }

    // ---- 5: "The last SPOT of a PLATE is no more: how many are left. UNKNOWN; STATE: there is none."

    static void p05_unspot_plateTooSmall_isUNKNOWN() {
        due(full(0).unspot(-1), UNKNOWN);
    }

    static void p05_unspot_plateTooLarge_isUNKNOWN() {
        due(full(1).unspot(2), UNKNOWN);
    }

    static void p05_unspot_plateFarOutside_isUNKNOWN() {
        for (int wild : WILD) due(full(0).unspot(wild), UNKNOWN);
    }

    static void p05_unspot_ofNone_isSTATE() {
        for (int p = 0; p < 2; p++) due(new StarPlates().unspot(p), STATE);
    }

    static void p05_unspot_ofNoneBesideTheOtherPlates_isSTATE() {
        StarPlates x = full(0);
        due(x.unspot(1), STATE);
        due(x.many(1), 8);
    }

    static void p05_unspot_ofNoneBesideStars_isSTATE() {
        StarPlates x = Skies.stars(new int[] {7, 8});
        due(x.unspot(0), STATE);
        due(x.many(0), 1);
    }

    static void p05_unspot_ofTheOnlyOne_is0() {
        StarPlates x = one(1, 7, 8, 9);
        due(x.unspot(1), 0);
        due(x.unspot(1), STATE);
        due(x.many(2), 0);
    }

    static void p05_unspot_UNKNOWNIsAheadOfSTATE() {
        due(new StarPlates().unspot(2), UNKNOWN);
        due(new StarPlates().unspot(-1), UNKNOWN);
    }

    static void p05_unspot_tellsHowManyAreLeft() {
        for (int p = 0; p < 2; p++) {
            StarPlates x = full(p);
            for (int left = 7; left >= 0; left--) due(x.unspot(p), left);
        }
    }

    static void p05_unspot_takesTheLast() {
        StarPlates x = full(1);
        x.unspot(1);
        due(x.ofSpot(1, 6, 0), 60);
        due(x.ofSpot(1, 0, 0), 0);
        due(x.ofSpot(1, 7, 0), UNKNOWN);
    }

    static void p05_unspot_leavesTheOtherPlate() {
        StarPlates x = Skies.six();
        due(x.unspot(0), 5);
        due(x.many(2), 6);
        due(x.unspot(1), 5);
        due(x.many(1), 5);
    }

    static void p05_unspot_makesRoomWhereItWasFull() {
        StarPlates x = full(0);
        due(x.spot(0, 1, 1, 1), FULL);
        x.unspot(0);
        due(x.spot(0, 1, 1, 1), 7);
        due(x.spot(0, 2, 2, 2), FULL);
    }

    static void p05_unspot_makesItsPlaceFree() {
        StarPlates x = one(0, 7, 8, 9);
        x.unspot(0);
        due(x.spot(0, 7, 8, 77), 0);
        due(x.ofSpot(0, 0, 2), 77);
    }

    static void p05_unspot_leavesCopiesAndTrays() {
        StarPlates x = Skies.rich();
        x.unspot(1);
        due(x.seen(2, 7), 25);
        x.unspot(0);
        due(x.restore(0, 0), 7);
    }

    static void p05_unspot_UNKNOWN_changesNothing() {
        changesNothing(x -> due(x.unspot(2), UNKNOWN));
    }

    static void p05_unspot_STATE_changesNothing() {
        StarPlates x = one(0, 7, 8, 9);
        for (int call = 0; call < 3; call++) due(x.unspot(1), STATE);
        due(x.spot(1, 1, 1, 1), 0);
        due(x.many(1), 1);
    }

    // ---- 7: "0 x, 1 y, 2 LIGHT. UNKNOWN: PLATE, SPOT; OUTSIDE."

    static void p07_ofSpot_tellsEachAsItIs() {
        StarPlates x = one(0, 10, 20, 30);
        x.spot(1, 40, 50, 60);
        for (int what = 0; what < 3; what++) due(x.ofSpot(0, 0, what), 10 * what + 10);
        for (int what = 0; what < 3; what++) due(x.ofSpot(1, 0, what), 10 * what + 40);
    }

    static void p07_ofSpot_leastAndGreatest() {
        StarPlates x = one(0, 0, 4095, 255);
        x.spot(0, 4095, 0, 0);
        int[][] want = {{0, 4095, 255}, {4095, 0, 0}};
        for (int k = 0; k < 2; k++) for (int what = 0; what < 3; what++) due(x.ofSpot(0, k, what), want[k][what]);
    }

    static void p07_ofSpot_plateTooSmall_isUNKNOWN() {
        due(full(0).ofSpot(-1, 0, 0), UNKNOWN);
    }

    static void p07_ofSpot_plateTooLarge_isUNKNOWN() {
        due(full(1).ofSpot(2, 0, 0), UNKNOWN);
    }

    static void p07_ofSpot_plateFarOutside_isUNKNOWN() {
        for (int wild : WILD) due(full(0).ofSpot(wild, 0, 0), UNKNOWN);
    }

    static void p07_ofSpot_spotTooSmall_isUNKNOWN() {
        for (int p = 0; p < 2; p++) due(full(p).ofSpot(p, -1, 0), UNKNOWN);
    }

    static void p07_ofSpot_spotTooLarge_isUNKNOWN() {
        for (int p = 0; p < 2; p++) due(full(p).ofSpot(p, 8, 0), UNKNOWN);
        due(one(0, 7, 8, 9).ofSpot(0, 1, 0), UNKNOWN);
    }

    static void p07_ofSpot_spotFarOutside_isUNKNOWN() {
        for (int wild : WILD) due(full(0).ofSpot(0, wild, 0), UNKNOWN);
    }

    static void p07_ofSpot_ofAnEmptyPlateBesideAFullOne_isUNKNOWN() {
        due(full(0).ofSpot(1, 0, 0), UNKNOWN);
        due(full(1).ofSpot(0, 0, 0), UNKNOWN);
    }

    static void p07_ofSpot_lastOfEight() {
        for (int p = 0; p < 2; p++) due(full(p).ofSpot(p, 7, 0), 70);
    }

    static void p07_ofSpot_ofOneThatIsNoMore_isUNKNOWN() {
        StarPlates x = full(0);
        x.unspot(0);
        due(x.ofSpot(0, 7, 2), UNKNOWN);
    }

    static void p07_ofSpot_whatTooSmall_isOUTSIDE() {
        due(full(0).ofSpot(0, 0, -1), OUTSIDE);
    }

    static void p07_ofSpot_whatTooLarge_isOUTSIDE() {
        due(full(0).ofSpot(0, 0, 3), OUTSIDE);
    }

    static void p07_ofSpot_whatFarOutside_isOUTSIDE() {
        for (int wild : WILD) due(full(0).ofSpot(0, 0, wild), OUTSIDE);
    }

    static void p07_ofSpot_UNKNOWNIsAheadOfOUTSIDE() {
        due(full(0).ofSpot(2, 0, 3), UNKNOWN);
        due(full(0).ofSpot(0, 8, 3), UNKNOWN);
        due(full(0).ofSpot(0, -1, -1), UNKNOWN);
    }
}
