/** Promise 16: level, sentence by sentence. */
public final class Promise16LevelTest {
    public static void main(String[] args) {
        unknown();
        bounds();
        ofARest();
        order();
        noneSuch();
        noBeam();
        levelOne();
        hangsTogether();
        laterOneBroken();
        stubOfTheFirst();
        stubOfTheLast();
        stubWithin();
        stubInItsBar();
        stubByItsValue();
        overRests();
        Check.end();
    }

    private static void levels(String what, StemBeams x, int l, int... due) {
        int[] got = new int[x.count(0)];
        for (int i = 0; i < got.length; i++) {
            got[i] = x.level(i, l);
        }
        Check.row(what, got, due);
    }

    /** Notes on the middle line with these VALUES, in one beam. */
    private static StemBeams values(int... values) {
        StemBeams x = Score.wide();
        for (int v : values) {
            x.note(0, 0, v, 0);
        }
        x.group();
        return x;
    }

    private static void unknown() {
        Check.promise(16, "UNKNOWN: no such event");
        for (int note : Score.NO_NUMBERS) {
            Check.same("level(" + note + ", 1)", Score.rich().level(note, 1), Score.UNKNOWN);
        }
        Check.same("the one behind the last", Score.rich().level(8, 1), Score.UNKNOWN);
        Check.same("the last", Score.rich().level(7, 1), 1);
        Check.same("the 64th", Score.full().level(63, 1), 0);
    }

    private static void bounds() {
        Check.promise(16, "LEVEL is 1 to 4: OUTSIDE");
        for (int l : new int[] {-1, 0, 5, 6, Score.LOW, Score.HIGH}) {
            Check.same("level(0, " + l + ")", values(6, 6).level(0, l), Score.OUTSIDE);
        }
        for (int l = 1; l <= 4; l++) {
            Check.same("level(0, " + l + ")", values(6, 6).level(0, l), 2);
        }
    }

    private static void ofARest() {
        Check.promise(16, "STATE: a REST");
        for (int l = 1; l <= 4; l++) {
            Check.same("level(1, " + l + ")", Score.rich().level(1, l), Score.STATE);
        }
    }

    private static void order() {
        Check.promise(16, "UNKNOWN, then OUTSIDE, then STATE");
        Check.same("UNKNOWN before OUTSIDE", Score.rich().level(8, 0), Score.UNKNOWN);
        Check.same("OUTSIDE before STATE", Score.rich().level(1, 0), Score.OUTSIDE);
        Check.same("OUTSIDE before STATE", Score.rich().level(1, 5), Score.OUTSIDE);
    }

    private static void noneSuch() {
        Check.promise(16, "0: it has none such");
        for (int value = 3; value <= 6; value++) {
            StemBeams x = values(value, value);
            for (int l = 1; l <= 4; l++) {
                Check.same("VALUE " + value + ", LEVEL " + l, x.level(0, l), l <= value - 2 ? 2 : 0);
                Check.same("VALUE " + value + ", LEVEL " + l + ", last", x.level(1, l), l <= value - 2 ? 1 : 0);
            }
        }
        levels("LEVEL 2 of an eighth beside sixteenths", values(4, 3, 4), 2, 8, 0, 4);
    }

    private static void noBeam() {
        Check.promise(16, "0: no beam");
        for (int value = 0; value <= 6; value++) {
            StemBeams x = values(value);
            for (int l = 1; l <= 4; l++) {
                Check.same("VALUE " + value + " alone, LEVEL " + l, x.level(0, l), 0);
            }
        }
        StemBeams x = values(6, 6);
        x.over(true);
        Check.same("taken away", x.level(0, 1), 0);
        x = Score.toStaff1(Score.of(6, -12, 12), 1);
        Check.same("OPEN", x.level(0, 4), 0);
    }

    private static void levelOne() {
        Check.promise(16, "LEVEL 1 from its first note to its last one");
        levels("two", values(3, 3), 1, 2, 1);
        levels("four", values(3, 6, 4, 5), 1, 2, 3, 3, 1);
        StemBeams x = values(6, 6, 6);
        for (int l = 2; l <= 4; l++) {
            x.broken(1, l, true);
            x.broken(2, l, true);
        }
        x.group();
        levels("all BROKEN", x, 1, 2, 3, 1);
    }

    private static void hangsTogether() {
        Check.promise(16, "a note with so many LEVELS hangs together with the one beside it that has them, too");
        StemBeams x = values(4, 5, 6, 5, 4);
        levels("LEVEL 2", x, 2, 2, 3, 3, 3, 1);
        levels("LEVEL 3", x, 3, 0, 2, 3, 1, 0);
        Check.same("LEVEL 4, alone", x.level(2, 4) > 3 ? 1 : 0, 1);
        levels("not over one that has not", values(4, 4, 3, 4, 4), 2, 2, 1, 0, 2, 1);
    }

    private static void laterOneBroken() {
        Check.promise(16, "unless the later one is BROKEN at l");
        StemBeams x = values(5, 5, 5, 5);
        x.broken(2, 2, true);
        x.group();
        levels("BROKEN at 2", x, 2, 2, 1, 2, 1);
        levels("not at 3", x, 3, 2, 3, 3, 1);
        x = values(5, 5, 5, 5);
        x.broken(2, 3, true);
        x.group();
        levels("BROKEN at 3", x, 3, 2, 1, 2, 1);
        levels("not at 2", x, 2, 2, 3, 3, 1);
        x = values(5, 5);
        x.broken(0, 2, true);
        x.group();
        levels("the first one BROKEN: it is no later one", x, 2, 2, 1);
        x.broken(0, 2, false);
        x.broken(1, 2, true);
        x.group();
        levels("the last one BROKEN", x, 2, 8, 4);
        levels("of LEVEL 3 not", x, 3, 2, 1);
        x.broken(1, 2, false);
        x.group();
        levels("no more", x, 2, 2, 1);
    }

    private static void stubOfTheFirst() {
        Check.promise(16, "a STUB to the right, if it is the beam's first note");
        Check.same("at 0", values(4, 3).level(0, 2), 8);
        StemBeams x = Score.wide();
        x.pause(0, 4, 0);
        x.note(0, 0, 4, 0);
        x.note(0, 0, 3, 0);
        x.group();
        Check.same("at 16, no multiple of 32", x.level(1, 2), 8);
        Check.same("LEVELS 2 to 4", values(6, 3).level(0, 4), 8);
    }

    private static void stubOfTheLast() {
        Check.promise(16, "to the left, if it is the last one");
        Check.same("at 32, a multiple of 32", values(3, 4).level(1, 2), 4);
        StemBeams x = Score.wide();
        x.note(0, 0, 3, 1);
        x.note(0, 0, 4, 0);
        x.group();
        Check.same("at 48", x.level(1, 2), 4);
        Check.same("LEVELS 2 to 4", values(3, 6).level(1, 4), 4);
    }

    private static void stubWithin() {
        Check.promise(16, "else to the right, if it begins at a multiple of twice L, else to the left");
        levels("at 32", values(3, 4, 3), 2, 0, 8, 0);
        levels("at 32 and at 80", values(3, 4, 3, 4, 3), 2, 0, 8, 0, 4, 0);
        StemBeams x = values(4, 4, 4);
        x.broken(1, 2, true);
        x.broken(2, 2, true);
        x.group();
        levels("BROKEN on both sides, at 16", x, 2, 8, 4, 4);
        x = Score.wide();
        x.note(0, 0, 6, 0);
        x.note(0, 0, 3, 0);
        x.note(0, 0, 4, 0);
        x.note(0, 0, 3, 0);
        x.group();
        Check.same("at 36", x.level(2, 2), 4);
    }

    private static void stubInItsBar() {
        Check.promise(16, "it begins in its bar at a multiple");
        // Bars of 80 TICKS: 80 + 32 is no multiple of 32, 80 + 48 is one.
        StemBeams x = new StemBeams();
        x.meter(5, 16, 5);
        for (int v : new int[] {3, 3, 4, 3, 4, 3}) {
            x.note(0, 0, v, 0);
        }
        x.group();
        Check.same("at 32 of the second bar", x.level(4, 2), 8);
        Check.same("where it begins", x.event(4, 0), 112);
        x = new StemBeams();
        x.meter(5, 16, 5);
        for (int v : new int[] {3, 3, 4, 4, 3, 4, 4}) {
            x.note(0, 0, v, 0);
        }
        x.broken(6, 2, true);
        x.group();
        Check.same("at 48 of the second bar, though 128 is a multiple", x.level(5, 2), 4);
        Check.same("where it begins", x.event(5, 0), 128);
    }

    private static void stubByItsValue() {
        Check.promise(16, "twice L (of its VALUE), without DOTS and whatever the LEVEL");
        // VALUE 6 at 16 and at 36: 8 is twice its L.
        StemBeams x = values(4, 6, 4, 6, 4);
        levels("LEVEL 3", x, 3, 0, 8, 0, 4, 0);
        levels("LEVEL 4", x, 4, 0, 8, 0, 4, 0);
        // VALUE 5 at 32: 16 is twice its L, at 72 it is not.
        x = values(3, 5, 3, 5, 3);
        levels("VALUE 5, LEVEL 2", x, 2, 0, 8, 0, 4, 0);
        x = Score.wide();
        x.note(0, 0, 3, 0);
        x.note(0, 0, 4, 1);
        x.note(0, 0, 3, 0);
        x.group();
        Check.same("VALUE 4 with a dot at 32", x.level(1, 2), 8);
        x = Score.wide();
        x.note(0, 0, 3, 1);
        x.note(0, 0, 4, 1);
        x.note(0, 0, 3, 0);
        x.group();
        Check.same("VALUE 4 with a dot at 48, twice its TICKS", x.level(1, 2), 4);
    }

    private static void overRests() {
        Check.promise(16, "the one beside it in the beam, RESTS or not");
        StemBeams x = Score.of(4, 0, Score.REST, 0, 0);
        levels("LEVEL 2", x, 2, 2, Score.STATE, 3, 1);
        levels("LEVEL 1", x, 1, 2, Score.STATE, 3, 1);
    }
}
