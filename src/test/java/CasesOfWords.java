/** Promises 8 to 10: light read from words of the measuring machine. */
final class CasesOfWords extends Case {
    private static final int INFINITE = 0x7F800000, SIGN = 0x80000000;

    private CasesOfWords() { }

    private static int bits(float number) {
        return Float.floatToRawIntBits(number);
    }

    /** LIGHT that a spot of 77 has once it got that word, by either plate. */
    private static int lightOf(int word) {
        int[] became = new int[2];
        for (int p = 0; p < 2; p++) {
            StarPlates x = new StarPlates();
            x.spot(p, 5, 6, 77);
            due(x.light(p, 0, word), 77);
            became[p] = x.ofSpot(p, 0, 2);
        }
        due(became[1], became[0]);
        return became[0];
    }

    private static int word(int v) {
        return new StarPlates().word(v);
    }

    private static int number(int word) {
        return new StarPlates().number(word);
    }

    // ---- 8: "UNKNOWN: PLATE, SPOT"

    static void p08_light_plateTooSmall_isUNKNOWN() {
        due(Skies.six().light(-1, 0, 0), UNKNOWN);
    }

    static void p08_light_plateTooLarge_isUNKNOWN() {
        due(Skies.six().light(2, 0, 0), UNKNOWN);
    }

    static void p08_light_plateFarOutside_isUNKNOWN() {
        for (int wild : WILD) due(Skies.six().light(wild, 0, 0), UNKNOWN);
    }

    static void p08_light_spotTooSmall_isUNKNOWN() {
        for (int p = 0; p < 2; p++) due(Skies.six().light(p, -1, 0), UNKNOWN);
    }

    static void p08_light_spotTooLarge_isUNKNOWN() {
        for (int p = 0; p < 2; p++) due(Skies.six().light(p, 6, 0), UNKNOWN);
        for (int p = 0; p < 2; p++) due(Skies.eight().light(p, 8, 0), UNKNOWN);
    }

    static void p08_light_spotFarOutside_isUNKNOWN() {
        for (int wild : WILD) due(Skies.six().light(0, wild, 0), UNKNOWN);
    }

    static void p08_light_ofAnEmptyPlate_isUNKNOWN() {
        due(Skies.three(9, 9).light(1, 0, 0), UNKNOWN);
        due(new StarPlates().light(0, 0, 0), UNKNOWN);
    }

    static void p08_light_UNKNOWN_changesNothing() {
        changesNothing(x -> {
            due(x.light(2, 0, bits(1f)), UNKNOWN);
            due(x.light(0, 6, bits(1f)), UNKNOWN);
            due(x.light(1, -1, bits(1f)), UNKNOWN);
        });
    }

    static void p08_light_tellsWhatItWas() {
        StarPlates x = Skies.eight();
        due(x.light(0, 7, bits(3f)), 130);
        due(x.light(0, 7, bits(4f)), 12);
        due(x.light(0, 7, bits(4f)), 16);
        due(x.light(1, 7, bits(4f)), 200);
    }

    static void p08_light_isOfThatSpotAlone() {
        StarPlates x = Skies.six();
        x.light(1, 2, bits(1f));
        for (int k = 0; k < 6; k++) due(x.ofSpot(0, k, 2), Skies.LIGHTS[k]);
        for (int k = 0; k < 6; k++) due(x.ofSpot(1, k, 2), k == 2 ? 4 : Skies.LIGHTS[k]);
        due(x.ofSpot(1, 2, 0), 1910);
        due(x.ofSpot(1, 2, 1), 1030);
    }

    // ---- 8: "LIGHT of a WORD: four times that number, cut, no less than 0, no more than 255 (0, if it is no number)"

    static void p08_light_isFourTimesTheNumber() {
        due(lightOf(bits(1f)), 4);
        due(lightOf(bits(10f)), 40);
        due(lightOf(bits(31.25f)), 125);
    }

    static void p08_light_isCutBehindTheFour() {
        due(lightOf(bits(0.5f)), 2);
        due(lightOf(bits(10.3f)), 41);
        due(lightOf(bits(0.74f)), 2);
    }

    static void p08_light_justBelowAWholeOne_isCut() {
        due(lightOf(bits(0.25f) - 1), 0);
        due(lightOf(bits(1f) - 1), 3);
        due(lightOf(bits(32f) - 1), 127);
    }

    static void p08_light_ofAQuarter_is1() {
        due(lightOf(bits(0.25f)), 1);
    }

    static void p08_light_ofZero_is0() {
        due(lightOf(0), 0);
    }

    static void p08_light_ofZeroWithASign_is0() {
        due(lightOf(SIGN), 0);
    }

    static void p08_light_ofTheLeastNumbers_is0() {
        due(lightOf(1), 0);
        due(lightOf(0x007FFFFF), 0);
        due(lightOf(0x00800000), 0);
    }

    static void p08_light_ofTheGreatestUncapped_is255() {
        due(lightOf(bits(63.75f)), 255);
    }

    static void p08_light_justBelowTheGreatest_is254() {
        due(lightOf(bits(63.75f) - 1), 254);
        due(lightOf(bits(63.5f)), 254);
    }

    static void p08_light_tooLarge_is255() {
        due(lightOf(bits(64f) - 1), 255);
        due(lightOf(bits(64f)), 255);
        due(lightOf(bits(1000f)), 255);
    }

    static void p08_light_tooLargeForAnInt_is255() {
        due(lightOf(bits(536870912f)), 255);
        due(lightOf(bits(1073741824f)), 255);
        due(lightOf(bits(4294967296f)), 255);
        due(lightOf(bits(1e30f)), 255);
    }

    static void p08_light_tooLargeForAFloatOnceFourTimes_is255() {
        due(lightOf(INFINITE - 1), 255);
        due(lightOf(0x7F000000), 255);
    }

    static void p08_light_below0_is0() {
        due(lightOf(bits(-0.25f)), 0);
        due(lightOf(bits(-1f)), 0);
        due(lightOf(bits(-64f)), 0);
    }

    static void p08_light_farBelow0_is0() {
        due(lightOf(bits(-1073741824f)), 0);
        due(lightOf(bits(-1e30f)), 0);
        due(lightOf(SIGN | INFINITE - 1), 0);
    }

    static void p08_light_ofTheInfinite_is255() {
        due(lightOf(INFINITE), 255);
    }

    static void p08_light_ofTheInfiniteBelow0_is0() {
        due(lightOf(SIGN | INFINITE), 0);
    }

    static void p08_light_ofNoNumber_is0() {
        due(lightOf(0x7FC00000), 0);
        due(lightOf(INFINITE + 1), 0);
        due(lightOf(Integer.MAX_VALUE), 0);
    }

    static void p08_light_ofNoNumberWithASign_is0() {
        due(lightOf(0xFFC00000), 0);
        due(lightOf(SIGN | INFINITE + 1), 0);
        due(lightOf(-1), 0);
    }

    static void p08_light_ofEachQuarter() {
        for (int light = 0; light < 256; light++) due(lightOf(bits(light / 4f)), light);
    }

    // ---- 9: "The WORD whose number is the nearest to v; of two that are as near the one whose last bit is 0."

    static void p09_word_of0_is0() {
        due(word(0), 0);
    }

    static void p09_word_ofOneAndLessOne() {
        due(word(1), 0x3F800000);
        due(word(-1), 0xBF800000);
    }

    static void p09_word_ofEveryPowerOfTwo() {
        for (int power = 0; power < 31; power++) due(word(1 << power), (127 + power) << 23);
        for (int power = 0; power < 31; power++) due(word(-(1 << power)), SIGN | (127 + power) << 23);
    }

    static void p09_word_ofTheGreatestThatAllAreExactTo() {
        due(word(16777215), 0x4B7FFFFF);
        due(word(-16777215), 0xCB7FFFFF);
        due(word(16777216), 0x4B800000);
    }

    static void p09_word_asNearToTwo_belowHasLastBit0() {
        due(word(16777217), 0x4B800000);
        due(word(33554434), 0x4C000000);
        due(word(33554442), 0x4C000002);
    }

    static void p09_word_asNearToTwo_aboveHasLastBit0() {
        due(word(16777219), 0x4B800002);
        due(word(33554438), 0x4C000002);
    }

    static void p09_word_asNearToTwoBelow0() {
        due(word(-16777217), 0xCB800000);
        due(word(-16777219), 0xCB800002);
    }

    static void p09_word_nearerToTheOneBelow() {
        due(word(33554433), 0x4C000000);
        due(word(33554437), 0x4C000001);
        due(word(2147483583), 0x4EFFFFFF);
    }

    static void p09_word_nearerToTheOneAbove() {
        due(word(33554435), 0x4C000001);
        due(word(33554439), 0x4C000002);
    }

    static void p09_word_roundedUpToAPowerOfTwo() {
        due(word(33554431), 0x4C000000);
        due(word(67108863), 0x4C800000);
        due(word(1073741823), 0x4E800000);
    }

    static void p09_word_asNearToTheGreatestPowerOfTwo() {
        due(word(2147483584), 0x4F000000);
        due(word(-2147483584), 0xCF000000);
    }

    static void p09_word_ofTheGreatestInt_isRoundedUp() {
        due(word(Integer.MAX_VALUE), 0x4F000000);
    }

    static void p09_word_ofTheLeastInt_isExact() {
        due(word(Integer.MIN_VALUE), 0xCF000000);
        due(word(Integer.MIN_VALUE + 1), 0xCF000000);
        due(word(Integer.MIN_VALUE + 64), 0xCF000000);
        due(word(Integer.MIN_VALUE + 65), 0xCEFFFFFF);
    }

    static void p09_word_aroundTheHalfOfEveryStep() {
        for (int top = 24; top < 31; top++) {
            int half = 1 << (top - 24);
            for (int step = 0; step < 4; step++) {
                for (int more = -1; more <= 1; more++) {
                    int v = (1 << top) + (2 * step + 1) * half + more;
                    due(word(v), bits((float) v));
                    due(word(-v), bits((float) -v));
                }
            }
        }
    }

    // ---- 10: "The number of a WORD, cut; if it is beyond an int, the one nearest to it; 0, if it is no number."

    static void p10_number_ofZero_is0() {
        due(number(0), 0);
        due(number(SIGN), 0);
    }

    static void p10_number_justBelow1_isCutTo0() {
        due(number(bits(1f) - 1), 0);
        due(number(bits(-1f) - 1), 0);
        due(number(bits(0.5f)), 0);
    }

    static void p10_number_of1() {
        due(number(bits(1f)), 1);
        due(number(bits(-1f)), -1);
    }

    static void p10_number_isCutTowards0() {
        due(number(bits(1.5f)), 1);
        due(number(bits(2.5f)), 2);
        due(number(bits(2.9999f)), 2);
        due(number(bits(8388607.5f)), 8388607);
    }

    static void p10_number_below0_isCutTowards0() {
        due(number(bits(-1.5f)), -1);
        due(number(bits(-2.5f)), -2);
        due(number(bits(-2.9999f)), -2);
        due(number(bits(-8388607.5f)), -8388607);
    }

    static void p10_number_ofTheLeastNumbers_is0() {
        due(number(1), 0);
        due(number(SIGN | 1), 0);
        due(number(0x007FFFFF), 0);
        due(number(0x00800000), 0);
    }

    static void p10_number_whereTheFractionEnds() {
        due(number(bits(8388608f)), 8388608);
        due(number(bits(16777216f)), 16777216);
        due(number(bits(16777216f) + 1), 16777218);
    }

    static void p10_number_greatestWithinAnInt() {
        due(number(bits(2147483648f) - 1), 2147483520);
        due(number(bits(-2147483648f) - 1), -2147483520);
    }

    static void p10_number_justBeyondAnInt_isTheGreatest() {
        due(number(bits(2147483648f)), Integer.MAX_VALUE);
    }

    static void p10_number_leastInt_isItself() {
        due(number(bits(-2147483648f)), Integer.MIN_VALUE);
    }

    static void p10_number_justBelowAnInt_isTheLeast() {
        due(number(bits(-2147483648f) + 1), Integer.MIN_VALUE);
    }

    static void p10_number_farBeyondAnInt_doesNotWrap() {
        due(number(bits(4294967296f)), Integer.MAX_VALUE);
        due(number(bits(6442450944f)), Integer.MAX_VALUE);
        due(number(bits(1e20f)), Integer.MAX_VALUE);
        due(number(INFINITE - 1), Integer.MAX_VALUE);
    }

    static void p10_number_farBelowAnInt_doesNotWrap() {
        due(number(bits(-4294967296f)), Integer.MIN_VALUE);
        due(number(bits(-6442450944f)), Integer.MIN_VALUE);
        due(number(bits(-1e20f)), Integer.MIN_VALUE);
        due(number(SIGN | INFINITE - 1), Integer.MIN_VALUE);
    }

    static void p10_number_ofTheInfinite() {
        due(number(INFINITE), Integer.MAX_VALUE);
        due(number(SIGN | INFINITE), Integer.MIN_VALUE);
    }

    static void p10_number_ofNoNumber_is0() {
        due(number(0x7FC00000), 0);
        due(number(INFINITE + 1), 0);
        due(number(Integer.MAX_VALUE), 0);
    }

    static void p10_number_ofNoNumberWithASign_is0() {
        due(number(0xFFC00000), 0);
        due(number(SIGN | INFINITE + 1), 0);
        due(number(-1), 0);
    }

    static void p10_number_ofEveryPowerOfTwo() {
        for (int power = 0; power < 31; power++) due(number((127 + power) << 23), 1 << power);
        for (int power = 0; power < 32; power++) due(number(SIGN | (127 + power) << 23), -(1 << power));
    }

    static void p10_number_ofAWordsOwnNumber() {
        for (int v = -300; v <= 300; v++) due(number(word(v)), v);
    }
}
