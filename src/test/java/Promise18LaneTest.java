/** Promise 18: lane, sentence by sentence. */
public final class Promise18LaneTest {
    public static void main(String[] args) {
        unknown();
        noteBounds();
        levelBounds();
        order();
        levelOne();
        up();
        down();
        between();
        toTheRight();
        toTheLeft();
        halves();
        noteWithFewerLevels();
        Check.end();
    }

    private static void lanes(String what, StemBeams x, int l, int... due) {
        int[] got = new int[x.beam(0, 0)];
        for (int k = 0; k < got.length; k++) {
            got[k] = x.lane(0, k, l);
        }
        Check.row(what, got, due);
    }

    private static void unknown() {
        Check.promise(18, "UNKNOWN: no such beam");
        for (int beam : Score.NO_NUMBERS) {
            Check.same("lane(" + beam + ", 0, 1)", Score.rich().lane(beam, 0, 1), Score.UNKNOWN);
        }
        Check.same("the one behind the last", Score.rich().lane(3, 0, 1), Score.UNKNOWN);
        Check.isTrue("the last one", Score.rich().lane(2, 0, 1) > -1000);
        StemBeams x = Score.rich();
        x.over(true);
        Check.same("taken away", x.lane(0, 0, 1), Score.UNKNOWN);
    }

    private static void noteBounds() {
        Check.promise(18, "its note k: OUTSIDE");
        for (int k : new int[] {-1, 2, 16, Score.LOW, Score.HIGH}) {
            Check.same("lane(0, " + k + ", 1) of 2", Score.of(6, 2, 2).lane(0, k, 1), Score.OUTSIDE);
        }
        StemBeams x = Score.of(6, new int[16]);
        Check.same("the 16th", x.lane(0, 15, 1), x.stem(15, 1));
        Check.same("a 17th", x.lane(0, 16, 1), Score.OUTSIDE);
    }

    private static void levelBounds() {
        Check.promise(18, "LEVEL l is 1 to the greatest: OUTSIDE");
        for (int value = 3; value <= 6; value++) {
            StemBeams x = Score.of(value, 2, 2);
            int greatest = value - 2;
            for (int l : new int[] {-1, 0, greatest + 1, 5, Score.LOW, Score.HIGH}) {
                Check.same("VALUE " + value + ", LEVEL " + l, x.lane(0, 0, l), Score.OUTSIDE);
            }
            Check.same("LEVEL 1", x.lane(0, 0, 1), x.beam(0, 3));
            Check.same("the greatest", x.lane(0, 0, greatest), x.beam(0, 3) + 3 * (greatest - 1));
        }
    }

    private static void order() {
        Check.promise(18, "UNKNOWN, then OUTSIDE");
        Check.same("note 9", Score.rich().lane(3, 9, 1), Score.UNKNOWN);
        Check.same("LEVEL 9", Score.rich().lane(-1, 0, 9), Score.UNKNOWN);
    }

    private static void levelOne() {
        Check.promise(18, "LEVEL 1 lies at the beam's height");
        for (int way = 0; way <= 2; way++) {
            StemBeams x = Score.of(3, -4, -5, -3);
            x.feather(0, way);
            lanes("FEATHERED " + way, x, 1, 4, 5, 5);
        }
    }

    private static void up() {
        Check.promise(18, "3 (l - 1) from its height, down, if it goes up");
        // NEAR -4, WANT 20: at 16.
        StemBeams x = Score.of(6, -2, -2);
        for (int l = 1; l <= 4; l++) {
            lanes("LEVEL " + l, x, l, 19 - 3 * l, 19 - 3 * l);
        }
    }

    private static void down() {
        Check.promise(18, "else up");
        StemBeams x = Score.of(6, 2, 2);
        for (int l = 1; l <= 4; l++) {
            lanes("LEVEL " + l, x, l, 3 * l - 19, 3 * l - 19);
        }
        // f -13, SLANT 2.
        lanes("slanted", Score.of(4, 0, 2), 2, -10, -8);
    }

    private static void between() {
        Check.promise(18, "BETWEEN: down");
        StemBeams x = Score.toStaff1(Score.of(4, 5, -5), 1);
        lanes("LEVEL 1", x, 1, -23, -25);
        lanes("LEVEL 2", x, 2, -26, -28);
        x.feather(0, 1);
        lanes("to the right", x, 2, -23, -28);
        x.feather(0, 2);
        lanes("to the left", x, 2, -26, -25);
    }

    private static void toTheRight() {
        Check.promise(18, "FEATHERED to the right: from nothing at note 0 to 3 (l - 1) at the last one");
        StemBeams x = Score.of(6, -2, -2, -2, -2);
        x.feather(0, 1);
        lanes("LEVEL 2", x, 2, 16, 15, 14, 13);
        lanes("LEVEL 3", x, 3, 16, 14, 12, 10);
        lanes("LEVEL 4", x, 4, 16, 13, 10, 7);
        x = Score.of(6, 2, 2);
        x.feather(0, 1);
        lanes("down, two notes", x, 4, -16, -7);
    }

    private static void toTheLeft() {
        Check.promise(18, "FEATHERED to the left: from 3 (l - 1) at note 0 to nothing at the last one");
        StemBeams x = Score.of(6, -2, -2, -2, -2);
        x.feather(0, 2);
        lanes("LEVEL 2", x, 2, 13, 14, 15, 16);
        lanes("LEVEL 3", x, 3, 10, 12, 14, 16);
        lanes("LEVEL 4", x, 4, 7, 10, 13, 16);
        x = Score.of(6, 2, 2);
        x.feather(0, 2);
        lanes("down, two notes", x, 4, -7, -16);
    }

    private static void halves() {
        Check.promise(18, "ROUNDED, of two the one farther from 0");
        // 3 / 2 is 2, 6 / 2 is 3, 9 / 2 is 5.
        for (int way = 1; way <= 2; way++) {
            StemBeams x = Score.of(6, -2, -2, -2);
            x.feather(0, way);
            Check.same("LEVEL 2", x.lane(0, 1, 2), 16 - 2);
            Check.same("LEVEL 3", x.lane(0, 1, 3), 16 - 3);
            Check.same("LEVEL 4", x.lane(0, 1, 4), 16 - 5);
            x = Score.of(6, 2, 2, 2);
            x.feather(0, way);
            Check.same("down, LEVEL 2", x.lane(0, 1, 2), -16 + 2);
            Check.same("down, LEVEL 4", x.lane(0, 1, 4), -16 + 5);
        }
        // 3 k / 4: 0, 1, 2, 2, 3.
        StemBeams x = Score.of(4, -2, -2, -2, -2, -2);
        x.feather(0, 1);
        lanes("quarters, to the right", x, 2, 10, 9, 8, 8, 7);
        x.feather(0, 2);
        lanes("quarters, to the left", x, 2, 7, 8, 8, 9, 10);
    }

    private static void noteWithFewerLevels() {
        Check.promise(18, "of a beam, whatever LEVELS its note k has");
        // NEAR -4, WANT 14 and 14: at 10.
        StemBeams x = Score.wide();
        x.note(-2, 0, 3, 0);
        x.note(-2, 0, 4, 0);
        x.group();
        lanes("LEVEL 2", x, 2, 7, 7);
    }
}
