/** Promises 26 to 28: trays that take things of one sort alone. */
final class CasesOfTrays extends Case {
    private CasesOfTrays() { }

    /** Eight stars and spots, and trays 0, 1, 2 of sorts 0, 1, 2, with so many places. */
    private static StarPlates trays(int places) {
        StarPlates x = Skies.eight();
        for (int sort = 0; sort < 3; sort++) x.tray(sort, sort, places);
        return x;
    }

    // ---- 26: "UNKNOWN: TRAY; OUTSIDE: SORT, n above 8; SIZE."; "TRAYS 0 .. 2"

    static void p26_tray_trayTooSmall_isUNKNOWN() {
        due(new StarPlates().tray(-1, 0, 1), UNKNOWN);
    }

    static void p26_tray_trayTooLarge_isUNKNOWN() {
        due(new StarPlates().tray(3, 0, 1), UNKNOWN);
    }

    static void p26_tray_trayFarOutside_isUNKNOWN() {
        for (int wild : WILD) due(new StarPlates().tray(wild, 0, 1), UNKNOWN);
    }

    static void p26_tray_sortTooSmall_isOUTSIDE() {
        due(new StarPlates().tray(0, -1, 1), OUTSIDE);
    }

    static void p26_tray_sortTooLarge_isOUTSIDE() {
        due(new StarPlates().tray(0, 3, 1), OUTSIDE);
    }

    static void p26_tray_sortFarOutside_isOUTSIDE() {
        for (int wild : WILD) due(new StarPlates().tray(0, wild, 1), OUTSIDE);
    }

    static void p26_tray_tooManyPlaces_isOUTSIDE() {
        for (int sort = 0; sort < 3; sort++) due(new StarPlates().tray(0, sort, 9), OUTSIDE);
    }

    static void p26_tray_farTooManyPlaces_isOUTSIDE() {
        for (int wild : WILD) if (wild > 0) due(new StarPlates().tray(0, 0, wild), OUTSIDE);
    }

    static void p26_tray_lessThan0Places_isSIZE() {
        for (int sort = 0; sort < 3; sort++) due(new StarPlates().tray(0, sort, -1), SIZE);
    }

    static void p26_tray_farLessThan0Places_isSIZE() {
        for (int wild : WILD) if (wild < 0) due(new StarPlates().tray(0, 0, wild), SIZE);
    }

    static void p26_tray_UNKNOWNIsAheadOfOUTSIDE() {
        due(new StarPlates().tray(3, 3, 1), UNKNOWN);
        due(new StarPlates().tray(-1, 0, 9), UNKNOWN);
    }

    static void p26_tray_UNKNOWNIsAheadOfSIZE() {
        due(new StarPlates().tray(3, 0, -1), UNKNOWN);
        due(new StarPlates().tray(-1, 0, -1), UNKNOWN);
    }

    static void p26_tray_OUTSIDEIsAheadOfSIZE() {
        due(new StarPlates().tray(0, 3, -1), OUTSIDE);
        due(new StarPlates().tray(0, -1, -1), OUTSIDE);
    }

    static void p26_tray_refused_changesNothing() {
        changesNothing(x -> {
            due(x.tray(3, 0, 1), UNKNOWN);
            due(x.tray(0, 3, 1), OUTSIDE);
            due(x.tray(2, 1, 9), OUTSIDE);
        });
    }

    static void p26_tray_SIZE_changesNothing() {
        changesNothing(x -> {
            due(x.tray(0, 1, -1), SIZE);
            due(x.tray(1, 1, -1), SIZE);
            due(x.tray(2, 0, -8), SIZE);
        });
    }

    // ---- 26: "A TRAY comes, in place of what was: n."; "has 0 to 8 places, of a SORT", "and is empty at first"

    static void p26_tray_of0Places_comes() {
        StarPlates x = Skies.eight();
        due(x.tray(1, 2, 0), 0);
        due(x.many(7), 1);
        due(x.seen(1, 0), INDEX);
        due(x.lay(1, 0, 0, 0), INDEX);
    }

    static void p26_tray_of8Places_comes() {
        StarPlates x = Skies.eight();
        due(x.tray(1, 2, 8), 8);
        due(x.seen(1, 7), NONE);
        due(x.lay(1, 7, 0, 0), 1);
        due(x.seen(1, 8), INDEX);
    }

    static void p26_tray_ofEachSizeHasSoManyPlaces() {
        for (int n = 0; n <= 8; n++) {
            StarPlates x = new StarPlates();
            due(x.tray(0, 0, n), n);
            for (int i = 0; i < 9; i++) due(x.seen(0, i), i < n ? NONE : INDEX);
        }
    }

    static void p26_tray_ofEachNumberAndSort_comes() {
        for (int t = 0; t < 3; t++) for (int sort = 0; sort < 3; sort++) {
            StarPlates x = new StarPlates();
            due(x.tray(t, sort, 4), 4);
            for (int other = 0; other < 3; other++) due(x.seen(other, 0), other == t ? NONE : MISSING);
        }
    }

    static void p26_tray_inPlaceOfWhatWas_isEmpty() {
        StarPlates x = trays(8);
        for (int i = 0; i < 8; i++) x.lay(2, i, 1, i);
        due(x.tray(2, 2, 8), 8);
        for (int i = 0; i < 8; i++) due(x.seen(2, i), NONE);
        due(x.many(7), 3);
    }

    static void p26_tray_inPlaceOfWhatWas_withFewerPlaces() {
        StarPlates x = trays(8);
        x.lay(0, 2, 0, 1);
        due(x.tray(0, 0, 2), 2);
        due(x.seen(0, 2), INDEX);
        due(x.lay(0, 2, 0, 1), INDEX);
    }

    static void p26_tray_inPlaceOfWhatWas_withMorePlaces() {
        StarPlates x = trays(8);
        x.lay(0, 5, 0, 1);
        x.tray(0, 0, 2);
        due(x.tray(0, 0, 8), 8);
        due(x.seen(0, 5), NONE);
    }

    static void p26_tray_inPlaceOfWhatWas_ofAnotherSort() {
        StarPlates x = trays(8);
        due(x.lay(0, 0, 1, 0), SORT);
        x.tray(0, 1, 8);
        due(x.lay(0, 0, 1, 0), 1);
        due(x.lay(0, 0, 0, 0), SORT);
    }

    static void p26_tray_leavesTheOthers() {
        StarPlates x = trays(3);
        x.lay(0, 0, 0, 5);
        x.lay(2, 2, 2, 6);
        x.tray(1, 2, 0);
        due(x.seen(0, 0), 5);
        due(x.seen(2, 2), 26);
    }

    // ---- 27: "UNKNOWN: TRAY; OUTSIDE: what (0 .. 2); UNKNOWN: STAR, SPOT; FAULTS."

    static void p27_lay_trayTooSmall_isUNKNOWN() {
        due(trays(8).lay(-1, 0, 0, 0), UNKNOWN);
    }

    static void p27_lay_trayTooLarge_isUNKNOWN() {
        due(trays(8).lay(3, 0, 0, 0), UNKNOWN);
    }

    static void p27_lay_trayFarOutside_isUNKNOWN() {
        for (int wild : WILD) due(trays(8).lay(wild, 0, 0, 0), UNKNOWN);
    }

    static void p27_lay_whatTooSmall_isOUTSIDE() {
        due(trays(8).lay(2, 0, -1, 0), OUTSIDE);
    }

    static void p27_lay_whatTooLarge_isOUTSIDE() {
        due(trays(8).lay(2, 0, 3, 0), OUTSIDE);
    }

    static void p27_lay_whatFarOutside_isOUTSIDE() {
        for (int wild : WILD) due(trays(8).lay(2, 0, wild, 0), OUTSIDE);
    }

    static void p27_lay_starTooSmall_isUNKNOWN() {
        due(trays(8).lay(2, 0, 0, -1), UNKNOWN);
    }

    static void p27_lay_starTooLarge_isUNKNOWN() {
        due(trays(8).lay(2, 0, 0, 8), UNKNOWN);
        StarPlates x = trays(8);
        x.unstar();
        due(x.lay(2, 0, 0, 7), UNKNOWN);
        due(x.lay(2, 0, 1, 7), 1);
    }

    static void p27_lay_spotOfPlate0TooSmall_isUNKNOWN() {
        due(trays(8).lay(2, 0, 1, -1), UNKNOWN);
    }

    static void p27_lay_spotOfPlate0TooLarge_isUNKNOWN() {
        due(trays(8).lay(2, 0, 1, 8), UNKNOWN);
        StarPlates x = trays(8);
        x.unspot(0);
        due(x.lay(2, 0, 1, 7), UNKNOWN);
        due(x.lay(2, 0, 2, 7), 1);
    }

    static void p27_lay_spotOfPlate1TooSmall_isUNKNOWN() {
        due(trays(8).lay(2, 0, 2, -1), UNKNOWN);
    }

    static void p27_lay_spotOfPlate1TooLarge_isUNKNOWN() {
        due(trays(8).lay(2, 0, 2, 8), UNKNOWN);
        StarPlates x = trays(8);
        x.unspot(1);
        due(x.lay(2, 0, 2, 7), UNKNOWN);
        due(x.lay(2, 0, 0, 7), 1);
    }

    static void p27_lay_numberFarOutside_isUNKNOWN() {
        for (int wild : WILD) for (int what = 0; what < 3; what++) due(trays(8).lay(2, 0, what, wild), UNKNOWN);
    }

    static void p27_lay_ofNothing_isUNKNOWN() {
        StarPlates x = new StarPlates();
        x.tray(0, 2, 8);
        for (int what = 0; what < 3; what++) due(x.lay(0, 0, what, 0), UNKNOWN);
    }

    static void p27_lay_UNKNOWNTrayIsAheadOfOUTSIDE() {
        due(trays(8).lay(3, 0, 3, 0), UNKNOWN);
        due(trays(8).lay(-1, 0, -1, 0), UNKNOWN);
    }

    static void p27_lay_OUTSIDEIsAheadOfUNKNOWNStar() {
        due(trays(8).lay(0, 0, 3, 8), OUTSIDE);
        due(trays(8).lay(0, 0, -1, -1), OUTSIDE);
    }

    static void p27_lay_OUTSIDEIsAheadOfFaults() {
        due(Skies.eight().lay(0, 0, 3, 0), OUTSIDE);
        due(trays(8).lay(0, 8, 3, 0), OUTSIDE);
    }

    static void p27_lay_UNKNOWNStarIsAheadOfMISSING() {
        for (int what = 0; what < 3; what++) due(Skies.eight().lay(0, 0, what, 8), UNKNOWN);
    }

    static void p27_lay_UNKNOWNStarIsAheadOfINDEX() {
        for (int what = 0; what < 3; what++) due(trays(8).lay(2, 8, what, 8), UNKNOWN);
    }

    static void p27_lay_UNKNOWNStarIsAheadOfSORT() {
        due(trays(8).lay(1, 0, 0, 8), UNKNOWN);
        due(trays(8).lay(0, 0, 1, 8), UNKNOWN);
    }

    // ---- 27: "FAULTS, in this order: MISSING .., INDEX .., SORT ..; they change nothing"

    static void p27_lay_noSuchTray_isMISSING() {
        for (int t = 0; t < 3; t++) due(Skies.eight().lay(t, 0, 0, 0), MISSING);
    }

    static void p27_lay_noSuchTrayBesideOthers_isMISSING() {
        StarPlates x = Skies.eight();
        x.tray(0, 2, 8);
        x.tray(2, 2, 8);
        due(x.lay(1, 0, 0, 0), MISSING);
    }

    static void p27_lay_MISSINGIsAheadOfINDEX() {
        due(Skies.eight().lay(0, -1, 0, 0), MISSING);
        due(Skies.eight().lay(0, 8, 0, 0), MISSING);
    }

    static void p27_lay_MISSINGIsAheadOfSORT() {
        for (int what = 0; what < 3; what++) due(Skies.eight().lay(0, 0, what, 0), MISSING);
    }

    static void p27_lay_placeTooSmall_isINDEX() {
        for (int n = 0; n <= 8; n++) due(trays(n).lay(2, -1, 0, 0), INDEX);
    }

    static void p27_lay_placeTooLarge_isINDEX() {
        for (int n = 0; n <= 8; n++) due(trays(n).lay(2, n, 0, 0), INDEX);
    }

    static void p27_lay_placeFarOutside_isINDEX() {
        for (int wild : WILD) due(trays(8).lay(2, wild, 0, 0), INDEX);
    }

    static void p27_lay_INDEXIsAheadOfSORT() {
        due(trays(2).lay(0, 2, 1, 0), INDEX);
        due(trays(2).lay(1, -1, 0, 0), INDEX);
    }

    static void p27_lay_aSpotOnATrayForStars_isSORT() {
        for (int what = 1; what < 3; what++) due(trays(2).lay(0, 0, what, 0), SORT);
    }

    static void p27_lay_aStarOnATrayForSpots_isSORT() {
        due(trays(2).lay(1, 0, 0, 0), SORT);
    }

    static void p27_lay_MISSING_changesNothing() {
        changesNothing(x -> due(x.lay(1, 0, 0, 0), MISSING));
    }

    static void p27_lay_INDEX_changesNothing() {
        changesNothing(x -> {
            due(x.lay(0, 3, 0, 0), INDEX);
            due(x.lay(0, -1, 0, 0), INDEX);
            due(x.lay(2, 8, 1, 0), INDEX);
        });
    }

    static void p27_lay_SORT_changesNothing() {
        changesNothing(x -> {
            due(x.lay(0, 1, 1, 0), SORT);
            due(x.lay(0, 0, 2, 0), SORT);
        });
    }

    static void p27_lay_refused_changesNothing() {
        changesNothing(x -> {
            due(x.lay(3, 0, 0, 0), UNKNOWN);
            due(x.lay(2, 7, 3, 0), OUTSIDE);
            due(x.lay(2, 7, 0, 6), UNKNOWN);
            due(x.lay(0, 1, 0, -1), UNKNOWN);
        });
    }

    // ---- 27: "Place i of a TRAY takes the number of a STAR (what 0), of a SPOT of a PLATE (what 1 and the PLATE): 1."

    static void p27_lay_aTrayForStarsTakesStars() {
        StarPlates x = trays(2);
        due(x.lay(0, 1, 0, 7), 1);
        due(x.seen(0, 1), 7);
    }

    static void p27_lay_aTrayForSpotsTakesThoseOfBothPlates() {
        StarPlates x = trays(2);
        due(x.lay(1, 0, 1, 7), 1);
        due(x.lay(1, 1, 2, 6), 1);
        due(x.seen(1, 0), 17);
        due(x.seen(1, 1), 26);
    }

    static void p27_lay_aTrayForBothTakesAll() {
        StarPlates x = trays(3);
        for (int what = 0; what < 3; what++) due(x.lay(2, what, what, what + 5), 1);
        for (int what = 0; what < 3; what++) due(x.seen(2, what), 11 * what + 5);
    }

    static void p27_lay_onATakenPlace_isInPlaceOfWhatWas() {
        StarPlates x = trays(2);
        x.lay(2, 0, 0, 3);
        due(x.lay(2, 0, 2, 4), 1);
        due(x.seen(2, 0), 24);
        due(x.seen(2, 1), NONE);
    }

    static void p27_lay_theSameOnTwoPlaces() {
        StarPlates x = trays(2);
        due(x.lay(0, 0, 0, 3), 1);
        due(x.lay(0, 1, 0, 3), 1);
        due(x.lay(2, 0, 0, 3), 1);
        due(x.seen(0, 0), 3);
        due(x.seen(0, 1), 3);
    }

    static void p27_lay_onTheLastPlaceOfEight() {
        StarPlates x = trays(8);
        due(x.lay(2, 7, 2, 7), 1);
        due(x.seen(2, 7), 27);
        for (int i = 0; i < 7; i++) due(x.seen(2, i), NONE);
    }

    // ---- 28: "NONE: nothing. UNKNOWN: TRAY; FAULTS."

    static void p28_seen_trayTooSmall_isUNKNOWN() {
        due(trays(8).seen(-1, 0), UNKNOWN);
    }

    static void p28_seen_trayTooLarge_isUNKNOWN() {
        due(trays(8).seen(3, 0), UNKNOWN);
    }

    static void p28_seen_trayFarOutside_isUNKNOWN() {
        for (int wild : WILD) due(trays(8).seen(wild, 0), UNKNOWN);
    }

    static void p28_seen_noSuchTray_isMISSING() {
        for (int t = 0; t < 3; t++) due(Skies.eight().seen(t, 0), MISSING);
    }

    static void p28_seen_noSuchTrayBesideOthers_isMISSING() {
        StarPlates x = new StarPlates();
        x.tray(1, 0, 8);
        due(x.seen(0, 0), MISSING);
        due(x.seen(2, 0), MISSING);
        due(x.seen(1, 0), NONE);
    }

    static void p28_seen_UNKNOWNIsAheadOfFaults() {
        due(new StarPlates().seen(3, 0), UNKNOWN);
        due(new StarPlates().seen(-1, -1), UNKNOWN);
    }

    static void p28_seen_MISSINGIsAheadOfINDEX() {
        due(new StarPlates().seen(0, -1), MISSING);
        due(new StarPlates().seen(0, 8), MISSING);
    }

    static void p28_seen_placeTooSmall_isINDEX() {
        for (int n = 0; n <= 8; n++) due(trays(n).seen(0, -1), INDEX);
    }

    static void p28_seen_placeTooLarge_isINDEX() {
        for (int n = 0; n <= 8; n++) due(trays(n).seen(0, n), INDEX);
    }

    static void p28_seen_placeFarOutside_isINDEX() {
        for (int wild : WILD) due(trays(8).seen(0, wild), INDEX);
    }

    static void p28_seen_ofATrayOf0Places_isINDEX() {
        due(trays(0).seen(1, 0), INDEX);
    }

    static void p28_seen_ofAnEmptyPlace_isNONE() {
        for (int t = 0; t < 3; t++) for (int i = 0; i < 8; i++) due(trays(8).seen(t, i), NONE);
    }

    // ---- 28: "10 times what (as in lay()) and the number"; "(whatever becomes of that later)"

    static void p28_seen_ofTheLeastNumber_is0() {
        StarPlates x = trays(1);
        x.lay(0, 0, 0, 0);
        due(x.seen(0, 0), 0);
    }

    static void p28_seen_ofTheGreatestNumber_is27() {
        StarPlates x = trays(1);
        x.lay(1, 0, 2, 7);
        due(x.seen(1, 0), 27);
    }

    static void p28_seen_ofEachNumber() {
        for (int what = 0; what < 3; what++) for (int k = 0; k < 8; k++) {
            StarPlates x = trays(1);
            x.lay(2, 0, what, k);
            due(x.seen(2, 0), 10 * what + k);
        }
    }

    static void p28_seen_whateverBecomesOfTheStar() {
        StarPlates x = trays(1);
        x.lay(0, 0, 0, 7);
        x.unstar();
        due(x.seen(0, 0), 7);
        for (int s = 0; s < 7; s++) x.unstar();
        due(x.seen(0, 0), 7);
    }

    static void p28_seen_whateverBecomesOfTheSpot() {
        StarPlates x = trays(2);
        x.lay(1, 0, 1, 7);
        x.lay(1, 1, 2, 7);
        x.unspot(0);
        x.unspot(1);
        due(x.seen(1, 0), 17);
        due(x.seen(1, 1), 27);
        x.keep(0, 0);
        x.restore(1, 0);
        due(x.seen(1, 1), 27);
    }

    static void p28_seen_changesNothing() {
        changesNothing(x -> {
            due(x.seen(0, 0), NONE);
            due(x.seen(0, 1), 4);
            due(x.seen(1, 0), MISSING);
            due(x.seen(2, 8), INDEX);
        });
    }
}
