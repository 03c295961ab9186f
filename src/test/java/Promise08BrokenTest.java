/** Promise 8: broken, sentence by sentence. */
public final class Promise08BrokenTest {
    public static void main(String[] args) {
        whetherItWas();
        levelByLevel();
        unknown();
        bounds();
        ofARest();
        order();
        longNotes();
        takesBeamsAway();
        Check.end();
    }

    private static void whetherItWas() {
        Check.promise(8, "1 if it was so, else 0");
        for (int level = 2; level <= 4; level++) {
            StemBeams x = new StemBeams();
            x.note(0, 0, 6, 0);
            Check.same("not at first", x.broken(0, level, false), 0);
            Check.same("not yet", x.broken(0, level, true), 0);
            Check.same("now", x.broken(0, level, true), 1);
            Check.same("still", x.broken(0, level, false), 1);
            Check.same("no more", x.broken(0, level, false), 0);
        }
    }

    private static void levelByLevel() {
        Check.promise(8, "at a LEVEL, each for itself and of one NOTE");
        for (int level = 2; level <= 4; level++) {
            StemBeams x = new StemBeams();
            x.note(0, 0, 6, 0);
            x.note(0, 0, 6, 0);
            x.broken(1, level, true);
            for (int l = 2; l <= 4; l++) {
                Check.same("BROKEN at " + level + ", asked of " + l, x.broken(1, l, l == level), l == level ? 1 : 0);
                Check.same("the NOTE before it", x.broken(0, l, false), 0);
            }
            x.group();
            for (int l = 1; l <= 4; l++) {
                Check.same("BROKEN at " + level + ", LEVEL " + l, x.level(1, l), l == level ? 4 : 1);
            }
        }
    }

    private static void unknown() {
        Check.promise(8, "UNKNOWN: no such event");
        for (int note : Score.NO_NUMBERS) {
            Score.refused("broken(" + note + ", 2)", Score::rich, x -> x.broken(note, 2, true), Score.UNKNOWN);
        }
        Score.refused("the one behind the last", Score::rich, x -> x.broken(8, 2, true), Score.UNKNOWN);
        Check.same("the last", Score.rich().broken(7, 2, true), 1);
        Check.same("the 64th", Score.full().broken(63, 4, true), 0);
    }

    private static void bounds() {
        Check.promise(8, "LEVEL is 2 to 4");
        for (int level : new int[] {-1, 0, 1, 5, 34, 36, -30, Score.LOW, Score.HIGH}) {
            Score.refused("broken(7, " + level + ", true)", Score::rich, x -> x.broken(7, level, true), Score.OUTSIDE);
            Score.refused("broken(7, " + level + ", false)", Score::rich, x -> x.broken(7, level, false), Score.OUTSIDE);
        }
    }

    private static void ofARest() {
        Check.promise(8, "STATE: a REST");
        for (int level = 2; level <= 4; level++) {
            int its = level;
            Score.refused("broken(1, " + level + ")", Score::rich, x -> x.broken(1, its, true), Score.STATE);
        }
    }

    private static void order() {
        Check.promise(8, "UNKNOWN, then OUTSIDE, then STATE");
        Score.refused("UNKNOWN before OUTSIDE", Score::rich, x -> x.broken(8, 5, true), Score.UNKNOWN);
        Score.refused("OUTSIDE before STATE", Score::rich, x -> x.broken(1, 1, true), Score.OUTSIDE);
    }

    private static void longNotes() {
        Check.promise(8, "a NOTE, of whatever VALUE and LEVELS");
        for (int value = 0; value <= 6; value++) {
            StemBeams x = new StemBeams();
            x.note(0, 0, value, 0);
            Check.same("VALUE " + value, x.broken(0, 4, true), 0);
            Check.same("VALUE " + value + ", now", x.broken(0, 4, true), 1);
        }
    }

    private static void takesBeamsAway() {
        Check.promise(8, "it takes all beams away, if it is not refused");
        StemBeams x = Score.rich();
        x.broken(0, 1, true);
        x.broken(1, 2, true);
        x.broken(8, 2, true);
        Check.same("beams, refused", x.count(1), 3);
        x.broken(0, 2, false);
        Check.same("beams, though it was so", x.count(1), 0);
        Check.same("the beam of 7", x.stem(7, 4), Score.NONE);
        x.group();
        x.broken(6, 2, true);
        Check.same("beams", x.count(1), 0);
    }
}
