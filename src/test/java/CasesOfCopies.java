/** Promises 24, 25, 29: copies of plates, and how many there are of all. */
final class CasesOfCopies extends Case {
    private CasesOfCopies() { }

    /** A plate with n spots at (10 k, 4000 - k), of light k; the other plate is empty. */
    private static StarPlates plate(int p, int n) {
        StarPlates x = new StarPlates();
        for (int k = 0; k < n; k++) x.spot(p, 10 * k, 4000 - k, k);
        return x;
    }

    // ---- 24: "UNKNOWN: PLATE, COPY (0, 1)."

    static void p24_keep_plateTooSmall_isUNKNOWN() {
        due(plate(0, 3).keep(-1, 0), UNKNOWN);
    }

    static void p24_keep_plateTooLarge_isUNKNOWN() {
        due(plate(1, 3).keep(2, 0), UNKNOWN);
    }

    static void p24_keep_plateFarOutside_isUNKNOWN() {
        for (int wild : WILD) due(plate(0, 3).keep(wild, 0), UNKNOWN);
    }

    static void p24_keep_copyTooSmall_isUNKNOWN() {
        for (int p = 0; p < 2; p++) due(plate(p, 3).keep(p, -1), UNKNOWN);
    }

    static void p24_keep_copyTooLarge_isUNKNOWN() {
        for (int p = 0; p < 2; p++) due(plate(p, 3).keep(p, 2), UNKNOWN);
    }

    static void p24_keep_copyFarOutside_isUNKNOWN() {
        for (int wild : WILD) due(plate(0, 3).keep(0, wild), UNKNOWN);
    }

    static void p24_keep_UNKNOWN_changesNothing() {
        changesNothing(x -> {
            due(x.keep(0, 2), UNKNOWN);
            due(x.keep(0, -1), UNKNOWN);
            due(x.keep(2, 1), UNKNOWN);
            due(x.keep(-1, 0), UNKNOWN);
        });
    }

    // ---- 24: "A COPY of a PLATE is kept (in place of what it was): how many SPOTS it has."

    static void p24_keep_ofAnEmptyPlate_is0AndIsKept() {
        for (int p = 0; p < 2; p++) for (int copy = 0; copy < 2; copy++) {
            StarPlates x = new StarPlates();
            due(x.keep(p, copy), 0);
            due(x.many(8), 1);
            due(x.restore(p, copy), 0);
            due(x.restore(p, 1 - copy), STATE);
        }
    }

    static void p24_keep_ofAFullPlate_is8() {
        for (int p = 0; p < 2; p++) for (int copy = 0; copy < 2; copy++) due(plate(p, 8).keep(p, copy), 8);
    }

    static void p24_keep_inPlaceOfWhatItWas_withFewer() {
        StarPlates x = plate(0, 8);
        x.keep(0, 0);
        x.unspot(0);
        due(x.keep(0, 0), 7);
        due(x.many(8), 1);
        due(x.restore(1, 0), 7);
        due(x.ofSpot(1, 7, 0), UNKNOWN);
    }

    static void p24_keep_inPlaceOfWhatItWas_withMore() {
        StarPlates x = plate(0, 2);
        x.keep(0, 0);
        x.spot(0, 999, 998, 97);
        due(x.keep(0, 0), 3);
        due(x.restore(1, 0), 3);
        due(x.ofSpot(1, 2, 0), 999);
    }

    static void p24_keep_inPlaceOfWhatItWas_withNone() {
        StarPlates x = plate(0, 2);
        x.keep(0, 0);
        due(x.keep(1, 0), 0);
        due(x.many(8), 1);
        due(x.restore(0, 0), 0);
        due(x.many(1), 0);
    }

    static void p24_keep_leavesThePlate() {
        StarPlates x = plate(1, 3);
        x.keep(1, 1);
        due(x.many(2), 3);
        due(x.ofSpot(1, 2, 0), 20);
    }

    static void p24_keep_leavesTheOtherCopy() {
        StarPlates x = plate(0, 3);
        x.keep(0, 0);
        x.unspot(0);
        x.keep(0, 1);
        due(x.many(8), 2);
        due(x.restore(1, 0), 3);
        due(x.restore(1, 1), 2);
    }

    static void p24_keep_ofEitherPlate() {
        StarPlates x = plate(0, 3);
        x.spot(1, 77, 78, 79);
        due(x.keep(1, 0), 1);
        due(x.keep(0, 1), 3);
        due(x.restore(0, 0), 1);
        due(x.ofSpot(0, 0, 0), 77);
    }

    // ---- 25: "UNKNOWN: PLATE, COPY; STATE: it was not kept."

    private static StarPlates kept() {
        StarPlates x = plate(0, 3);
        x.keep(0, 0);
        x.keep(0, 1);
        return x;
    }

    static void p25_restore_plateTooSmall_isUNKNOWN() {
        due(kept().restore(-1, 0), UNKNOWN);
    }

    static void p25_restore_plateTooLarge_isUNKNOWN() {
        due(kept().restore(2, 0), UNKNOWN);
    }

    static void p25_restore_plateFarOutside_isUNKNOWN() {
        for (int wild : WILD) due(kept().restore(wild, 0), UNKNOWN);
    }

    static void p25_restore_copyTooSmall_isUNKNOWN() {
        for (int p = 0; p < 2; p++) due(kept().restore(p, -1), UNKNOWN);
    }

    static void p25_restore_copyTooLarge_isUNKNOWN() {
        for (int p = 0; p < 2; p++) due(kept().restore(p, 2), UNKNOWN);
    }

    static void p25_restore_copyFarOutside_isUNKNOWN() {
        for (int wild : WILD) due(kept().restore(0, wild), UNKNOWN);
    }

    static void p25_restore_notKept_isSTATE() {
        for (int p = 0; p < 2; p++) for (int copy = 0; copy < 2; copy++) due(plate(0, 3).restore(p, copy), STATE);
    }

    static void p25_restore_theOtherKeptAlone_isSTATE() {
        for (int copy = 0; copy < 2; copy++) {
            StarPlates x = plate(0, 3);
            x.keep(0, copy);
            due(x.restore(0, 1 - copy), STATE);
            due(x.restore(0, copy), 3);
        }
    }

    static void p25_restore_UNKNOWNIsAheadOfSTATE() {
        due(plate(0, 3).restore(2, 0), UNKNOWN);
        due(plate(0, 3).restore(-1, 1), UNKNOWN);
        due(plate(0, 3).restore(0, 2), UNKNOWN);
        due(plate(0, 3).restore(0, -1), UNKNOWN);
    }

    static void p25_restore_UNKNOWN_changesNothing() {
        changesNothing(x -> {
            due(x.restore(2, 0), UNKNOWN);
            due(x.restore(-1, 0), UNKNOWN);
            due(x.restore(0, 2), UNKNOWN);
            due(x.restore(1, -1), UNKNOWN);
        });
    }

    static void p25_restore_STATE_changesNothing() {
        changesNothing(x -> {
            due(x.restore(0, 1), STATE);
            due(x.restore(1, 1), STATE);
        });
    }

    // ---- 25: "A PLATE gets all SPOTS of a COPY, in place of its own: how many."; "as they were when it was kept"; "either PLATE"

    static void p25_restore_ofAnEmptyCopy_emptiesThePlate() {
        StarPlates x = plate(0, 8);
        x.keep(1, 0);
        due(x.restore(0, 0), 0);
        due(x.many(1), 0);
        due(x.ofSpot(0, 0, 0), UNKNOWN);
        due(x.spot(0, 5, 5, 5), 0);
    }

    static void p25_restore_ofAFullCopy_fillsThePlate() {
        StarPlates x = plate(0, 8);
        x.keep(0, 1);
        due(x.restore(1, 1), 8);
        due(x.many(2), 8);
        for (int k = 0; k < 8; k++) due(x.ofSpot(1, k, 0), 10 * k);
        for (int k = 0; k < 8; k++) due(x.ofSpot(1, k, 1), 4000 - k);
        for (int k = 0; k < 8; k++) due(x.ofSpot(1, k, 2), k);
        due(x.spot(1, 5, 5, 5), FULL);
    }

    static void p25_restore_withFewer_itsOwnAreGone() {
        StarPlates x = plate(0, 2);
        x.keep(0, 0);
        for (int k = 0; k < 8; k++) x.spot(1, 500, k, 0);
        due(x.restore(1, 0), 2);
        due(x.many(2), 2);
        due(x.ofSpot(1, 2, 0), UNKNOWN);
        due(x.spot(1, 500, 0, 7), 2);
        due(x.spot(1, 0, 4000, 7), STATE);
    }

    static void p25_restore_withMore() {
        StarPlates x = plate(0, 5);
        x.keep(0, 0);
        x.spot(1, 500, 500, 0);
        due(x.restore(1, 0), 5);
        due(x.ofSpot(1, 0, 0), 0);
        due(x.ofSpot(1, 4, 0), 40);
    }

    static void p25_restore_hasPlaceAndLightAsWhenItWasKept() {
        StarPlates x = plate(0, 3);
        x.keep(0, 0);
        x.light(0, 2, x.word(60));
        x.unspot(0);
        x.spot(0, 4000, 4001, 5);
        due(x.restore(0, 0), 3);
        due(x.ofSpot(0, 2, 0), 20);
        due(x.ofSpot(0, 2, 1), 3998);
        due(x.ofSpot(0, 2, 2), 2);
    }

    static void p25_restore_leavesTheCopyAsItIs() {
        StarPlates x = plate(0, 3);
        x.keep(0, 0);
        x.restore(1, 0);
        x.light(1, 0, x.word(60));
        x.unspot(1);
        x.unspot(0);
        due(x.many(8), 1);
        due(x.restore(1, 0), 3);
        due(x.ofSpot(1, 0, 2), 0);
        due(x.restore(0, 0), 3);
    }

    static void p25_restore_leavesTheOtherPlate() {
        StarPlates x = plate(0, 3);
        x.keep(0, 0);
        x.spot(0, 4000, 4001, 5);
        x.restore(1, 0);
        due(x.many(1), 4);
        due(x.ofSpot(0, 3, 0), 4000);
        x.light(1, 1, x.word(60));
        due(x.ofSpot(0, 1, 2), 1);
    }

    static void p25_restore_leavesTheOtherCopy() {
        StarPlates x = plate(0, 3);
        x.keep(0, 0);
        x.unspot(0);
        x.keep(0, 1);
        due(x.restore(0, 0), 3);
        due(x.restore(0, 1), 2);
        due(x.restore(0, 0), 3);
    }

    static void p25_restore_leavesTrays() {
        StarPlates x = Skies.rich();
        x.restore(1, 0);
        due(x.seen(2, 7), 25);
    }

    // ---- 29: "0 STARS, 1, 2 SPOTS of PLATES 0, 1, 3, 4 twos of MATCH of them, 5, 6 of CLEANED, 7 TRAYS, 8 COPIES. OUTSIDE."

    static void p29_many_whatTooSmall_isOUTSIDE() {
        due(Skies.rich().many(-1), OUTSIDE);
    }

    static void p29_many_whatTooLarge_isOUTSIDE() {
        due(Skies.rich().many(9), OUTSIDE);
    }

    static void p29_many_whatFarOutside_isOUTSIDE() {
        for (int wild : WILD) due(Skies.rich().many(wild), OUTSIDE);
    }

    static void p29_many_ofNothing_is0() {
        for (int what = 0; what < 9; what++) due(new StarPlates().many(what), 0);
    }

    static void p29_many_ofTheFullest() {
        StarPlates x = Skies.eight();
        for (int what = 0; what < 7; what++) due(x.many(what), 8);
        for (int t = 0; t < 3; t++) x.tray(t, 0, 0);
        for (int copy = 0; copy < 2; copy++) x.keep(0, copy);
        due(x.many(7), 3);
        due(x.many(8), 2);
    }

    static void p29_many_eachCountsItsOwn() {
        StarPlates x = Skies.three(9, 9);
        x.star(-500, 700, 0);
        x.spot(1, 5, 5, 5);
        x.tray(2, 0, 8);
        int[] want = {4, 3, 1, 3, 0, 3, 0, 1, 0};
        for (int what = 0; what < 9; what++) due(x.many(what), want[what]);
    }

    static void p29_many_ofMatchAndCleanedAreTheirPlates() {
        StarPlates x = Skies.skewed();
        int[] want = {6, 6, 0, 6, 0, 5, 0, 0, 0};
        for (int what = 0; what < 9; what++) due(x.many(what), want[what]);
        x.keep(0, 0);
        x.restore(1, 0);
        while (x.many(1) > 0) x.unspot(0);
        int[] then = {6, 0, 6, 0, 6, 0, 5, 0, 1};
        for (int what = 0; what < 9; what++) due(x.many(what), then[what]);
    }

    static void p29_many_twosOfCleanedAreTwoAtLeast() {
        StarPlates x = Skies.sixStrays();
        int[] want = {3, 8, 8, 3, 3, 2, 2, 0, 0};
        for (int what = 0; what < 9; what++) due(x.many(what), want[what]);
    }

    static void p29_many_ofTrays_countsEmptyOnesAndEachOnce() {
        StarPlates x = new StarPlates();
        x.tray(1, 2, 0);
        due(x.many(7), 1);
        x.tray(1, 0, 3);
        due(x.many(7), 1);
        x.tray(0, 0, 3);
        due(x.many(7), 2);
    }

    static void p29_many_ofCopies_countsEmptyOnesAndEachOnce() {
        StarPlates x = new StarPlates();
        x.keep(0, 1);
        due(x.many(8), 1);
        x.keep(1, 1);
        due(x.many(8), 1);
        x.keep(1, 0);
        due(x.many(8), 2);
    }

    static void p29_many_isByHowAllIsWhenAsked() {
        isByHowAllIs((x, answers) -> {
            for (int what = 0; what < 9; what++) answers.add((long) x.many(what));
        });
    }
}
