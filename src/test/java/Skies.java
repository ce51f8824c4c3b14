/** Stars and plates that the cases begin with. */
final class Skies {
    static final int[][] SIX = {{0, 0, 100}, {120, 10, 300}, {30, 90, 50}, {-80, 60, 700}, {-50, -110, 400}, {90, -70, 200}};
    static final int[][] EIGHT = {{0, 0}, {1200, 100}, {310, 940}, {-830, 620}, {-540, -1130}, {950, -720}, {410, -250}, {-170, 380}};
    static final int[] LIGHTS = {200, 100, 220, 20, 60, 150};

    private Skies() { }

    static StarPlates stars(int[]... places) {
        StarPlates x = new StarPlates();
        for (int[] at : places) x.star(at[0], at[1], 0);
        return x;
    }

    static StarPlates spots(StarPlates x, int p, int[]... places) {
        for (int[] at : places) x.spot(p, at[0], at[1], 0);
        return x;
    }

    /** Three stars with sides of 300, 400, 500: MARKS 72 and 128, TURN -1, CORNERS 2, 1, 0. */
    static StarPlates rightAngle() {
        return stars(new int[] {0, 0}, new int[] {300, 0}, new int[] {0, 400});
    }

    /** Those three stars, and three spots of plate 0 with sides of 3, 4, 5: A is 1 by 100, B is 0. */
    static StarPlates three(int atX, int atY) {
        return spots(rightAngle(), 0, new int[] {atX, atY}, new int[] {atX + 3, atY}, new int[] {atX, atY + 4});
    }

    /** Those three stars, and both plates with spots just so: a place of plate 0 is laid on plate 1 where it is. */
    static StarPlates pair() {
        StarPlates x = rightAngle();
        for (int p = 0; p < 2; p++) spots(x, p, new int[] {1000, 1000}, new int[] {1300, 1000}, new int[] {1000, 1400});
        return x;
    }

    /** Six stars; plate 0 has them as they are, plate 1 turned by a right angle; the ranks are as they should be. */
    static StarPlates six() {
        StarPlates x = new StarPlates();
        for (int s = 0; s < 6; s++) {
            x.star(SIX[s][0], SIX[s][1], SIX[s][2]);
            x.spot(0, 2000 + SIX[s][0], 2000 + SIX[s][1], LIGHTS[s]);
            x.spot(1, 2000 - SIX[s][1], 1000 + SIX[s][0], LIGHTS[s]);
        }
        return x;
    }

    /** Eight stars; plate 0 has them as they are, plate 1 turned, the spots the other way round. */
    static StarPlates eight() {
        StarPlates x = new StarPlates();
        for (int s = 0; s < 8; s++) x.star(EIGHT[s][0], EIGHT[s][1], 10 * s);
        for (int s = 0; s < 8; s++) x.spot(0, 2000 + EIGHT[s][0], 2000 + EIGHT[s][1], 200 - 10 * s);
        for (int s = 7; s >= 0; s--) x.spot(1, 2000 - EIGHT[s][1], 2000 + EIGHT[s][0], 200 - 10 * s);
        return x;
    }

    /**
     * Six stars; plate 0 has them doubled and turned (A 2, B 1), but spot 1 lies 30 off; SLACK is 30.
     * By all six OFF is 16, 400, 52, 9, 36, 80; without star 1 it is 0.
     */
    static StarPlates skewed() {
        StarPlates x = new StarPlates();
        for (int s = 0; s < 6; s++) x.star(SIX[s][0], SIX[s][1], SIX[s][2]);
        for (int s = 0; s < 6; s++) {
            int u = 2000 + 2 * SIX[s][0] - SIX[s][1];
            int v = 2000 + SIX[s][0] + 2 * SIX[s][1];
            x.spot(0, s == 1 ? u + 30 : u, v, LIGHTS[s]);
        }
        x.set(0, 30);
        return x;
    }

    /** Three twos of MATCH, of which LIMIT 0 leaves those of stars 1, 2: OFF of all three is 5, 4, 1. */
    static StarPlates twoLeft() {
        StarPlates x = stars(new int[] {30, 20}, new int[] {40, 30}, new int[] {10, 20});
        spots(x, 0, new int[] {130, 120}, new int[] {146, 130}, new int[] {110, 120});
        x.set(0, 30);
        x.set(1, 0);
        return x;
    }

    /** Stars 0, 1, 2 are on plate 0, stars 2, 3, 4 on plate 1: one star is in both. */
    static StarPlates oneInBoth() {
        StarPlates x = stars(new int[] {0, 280}, new int[] {490, 470}, new int[] {350, 530}, new int[] {110, 210}, new int[] {390, 140});
        spots(x, 0, new int[] {100, 380}, new int[] {590, 570}, new int[] {450, 630});
        return spots(x, 1, new int[] {550, 630}, new int[] {310, 310}, new int[] {590, 240});
    }

    /** Three stars and eight spots on each plate, 1000 further on plate 1; CLEANED has stars 1, 2 alone, six spots are stray on each. */
    static StarPlates sixStrays() {
        StarPlates x = rightAngle();
        int[][] places = {{1000, 1000}, {1300, 1000}, {1000, 1401}, {1600, 1480}, {290, 470}, {1150, 530}, {910, 1610}, {1190, 540}};
        int[] moved = {0, 0, 0, 50, 40, 30, 20, 10};
        for (int k = 0; k < 8; k++) {
            x.spot(0, places[k][0], places[k][1], 0);
            x.spot(1, 1000 + places[k][0] + moved[k], places[k][1], 0);
        }
        x.set(0, 1);
        x.set(1, 0);
        return x;
    }

    /** Something of each kind, and something of each kind that is not there: copy 1, tray 1. */
    static StarPlates rich() {
        StarPlates x = six();
        x.spot(0, 4000, 4001, 9);
        x.keep(0, 0);
        x.unspot(0);
        x.tray(0, 0, 3);
        x.lay(0, 1, 0, 4);
        x.tray(2, 2, 8);
        x.lay(2, 7, 2, 5);
        x.lay(2, 0, 0, 1);
        x.set(0, 3);
        x.set(1, 101);
        x.set(2, 40001);
        x.set(3, 41);
        return x;
    }

    /** Stars and spots to the brim, and no room for more. */
    static StarPlates richAndFull() {
        StarPlates x = eight();
        x.keep(1, 1);
        x.tray(1, 1, 8);
        x.lay(1, 3, 1, 7);
        return x;
    }
}
