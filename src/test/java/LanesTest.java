/** Promises 17, 18 and 19: lanes, feathered beams and the heights of rests. */
public final class LanesTest {
    public static void main(String[] args) {
        lanesUp();
        lanesDown();
        lanesBetween();
        feathering();
        restsAlone();
        restsUp();
        restsDown();
        restsFeathered();
        restsThatStay();
        restsBetween();
        Check.end();
    }

    /** Places of notes, 99 for a REST, all of one VALUE in one beam of VOICE 0 that goes over RESTS. */
    private static StemBeams of(int value, int... places) {
        StemBeams x = new StemBeams();
        x.meter(4, 4, 4);
        x.over(true);
        for (int p : places) {
            if (p == 99) {
                x.pause(0, value, 0);
            } else {
                x.note(p, 0, value, 0);
            }
        }
        x.group();
        return x;
    }

    private static int[] lanes(StemBeams x, int k) {
        int[] got = new int[x.beam(0, 1)];
        for (int l = 1; l <= got.length; l++) {
            got[l - 1] = x.lane(0, k, l);
        }
        return got;
    }

    private static void lanesUp() {
        Check.promise(18, "lanes of a beam that goes up");
        // f 16: NEAR -4, WANT 20.
        StemBeams x = of(6, -2, -2);
        Check.row("towards the heads, down", lanes(x, 0), 16, 13, 10, 7);
        Check.row("at the other end", lanes(x, 1), 16, 13, 10, 7);
        x = of(3, -2, -2);
        Check.row("one LEVEL", lanes(x, 0), 10);
        Check.same("no LEVEL 2", x.lane(0, 0, 2), StemBeams.OUTSIDE);
        // Levels 1 and 2 in one beam: the lane of LEVEL 2 is there at the eighth, too.
        x = new StemBeams();
        x.note(-2, 0, 3, 0);
        x.note(-2, 0, 4, 0);
        x.group();
        Check.row("a note with fewer LEVELS", lanes(x, 0), 10, 7);
    }

    private static void lanesDown() {
        Check.promise(18, "lanes of a beam that goes down");
        StemBeams x = of(6, 2, 2);
        Check.row("towards the heads, up", lanes(x, 0), -16, -13, -10, -7);
        // f -13, SLANT 2.
        x = of(4, 0, 2);
        Check.row("slanted, first", lanes(x, 0), -13, -10);
        Check.row("slanted, last", lanes(x, 1), -11, -8);
    }

    private static void lanesBetween() {
        Check.promise(18, "lanes BETWEEN");
        // NEAR 10 and -58, as in PlacesTest: f -23, SLANT -2 with WANT 14.
        StemBeams x = of(4, 5, -5);
        x.staff(1, 1);
        x.group();
        Check.row("BETWEEN, down", lanes(x, 0), -23, -26);
        Check.row("BETWEEN, down", lanes(x, 1), -25, -28);
    }

    private static void feathering() {
        Check.promise(17, "FEATHERED; likewise the LANES of promise 18");
        StemBeams x = of(6, -2, -2, -2);
        Check.same("not at first", x.beam(0, 7), 0);
        Check.same("to the right", x.feather(0, 1), 0);
        Check.same("so it is", x.beam(0, 7), 1);
        Check.row("right, note 0", lanes(x, 0), 16, 16, 16, 16);
        // 3, 6, 9 by 2: 1.5, 3, 4.5.
        Check.row("right, note 1", lanes(x, 1), 16, 14, 13, 11);
        Check.row("right, note 2", lanes(x, 2), 16, 13, 10, 7);
        Check.same("to the left", x.feather(0, 2), 1);
        Check.row("left, note 0", lanes(x, 0), 16, 13, 10, 7);
        Check.row("left, note 1", lanes(x, 1), 16, 14, 13, 11);
        Check.row("left, note 2", lanes(x, 2), 16, 16, 16, 16);
        Check.same("refused", x.feather(0, 3), StemBeams.OUTSIDE);
        Check.same("refused", x.feather(0, -1), StemBeams.OUTSIDE);
        Check.same("stays", x.beam(0, 7), 2);
        Check.same("the stems' ends stay", x.stem(1, 1), 16);
        Check.same("the beam is still there", x.count(1), 1);
        Check.same("not", x.feather(0, 0), 2);
        Check.row("not, note 0", lanes(x, 0), 16, 13, 10, 7);
        x.feather(0, 2);
        x.group();
        Check.same("made anew it is not", x.beam(0, 7), 0);
        x = of(6, 2, 2, 2, 2);
        x.feather(0, 1);
        // 9 by 3: 0, 3, 6, 9.
        Check.same("down, upwards", x.lane(0, 1, 4), -13);
        Check.same("down, upwards", x.lane(0, 2, 4), -10);
        x = of(4, 5, -5);
        x.staff(1, 1);
        x.group();
        x.feather(0, 2);
        Check.row("BETWEEN, to the left, note 0", lanes(x, 0), -23, -26);
        Check.row("BETWEEN, to the left, note 1", lanes(x, 1), -25, -25);
    }

    private static void restsAlone() {
        Check.promise(19, "RESTS alone");
        StemBeams x = new StemBeams();
        x.pause(0, 2, 0);
        Check.same("VOICE 0 alone", x.rest(0), 0);
        x.note(0, 1, 2, 0);
        Check.same("with VOICE 1", x.rest(0), 8);
        x.pause(1, 2, 0);
        Check.same("VOICE 1's", x.rest(2), -8);
        x = new StemBeams();
        x.pause(1, 2, 0);
        Check.same("VOICE 1 alone", x.rest(0), -8);
    }

    private static void restsUp() {
        Check.promise(19, "within a beam that goes up");
        // f 5; LEVEL 2 at 2: -4 is 6 from it.
        Check.same("LEVEL 2", of(4, -4, 99, -4).rest(1), -4);
        // f 5: -1 is 6 from it, on to -4.
        Check.same("LEVEL 1", of(3, -4, 99, -4).rest(1), -4);
        // f 0 (NEAR -16, WANT 16): -6 is 6 from it, on to -8.
        Check.same("low", of(3, -8, 99, -8).rest(1), -8);
        // f 8: 2 is 6 from it: it stays.
        Check.same("far enough", of(3, -3, 99, -3).rest(1), 0);
        // VALUE 4, f 10: LEVEL 2 at 7, 1 is 6 from it.
        Check.same("far enough from LEVEL 2", of(4, -2, 99, -2).rest(1), 0);
        // VALUE 6, NEAR -6, f 14, a place beyond the lines: LEVEL 4 at 5, -1, on to -4.
        Check.same("LEVEL 4", of(6, -3, 99, -3).rest(1), -4);
        StemBeams x = of(3, 99, -4, -4, 99);
        Check.same("before a beam", x.rest(0), 0);
        Check.same("behind a beam", x.rest(3), 0);
        x = of(4, -4, 99, 99, -4);
        Check.row("two rests", new int[] {x.rest(1), x.rest(2)}, -4, -4);
        x.over(true);
        Check.same("the beams are away", x.rest(1), 0);
    }

    private static void restsDown() {
        Check.promise(19, "within a beam that goes down");
        // f -5: LEVEL 2 at -2, 4 is 6 from it.
        Check.same("LEVEL 2", of(4, 4, 99, 4).rest(1), 4);
        // f -5: 1 is 6 from it, on to 4.
        Check.same("LEVEL 1", of(3, 4, 99, 4).rest(1), 4);
        // f 0: 6, on to 8.
        Check.same("high", of(3, 8, 99, 8).rest(1), 8);
        Check.same("far enough", of(3, 3, 99, 3).rest(1), 0);
        // f -13, SLANT 2 over notes at NEAR 0 and 4: -7 and -5 are below 0.
        Check.same("slanted, far enough", of(3, 0, 99, 2).rest(1), 0);
        // The lane at the note before counts, not the one behind: f 1 at the first note, -5 at the last one.
        StemBeams x = of(3, 12, 99, 4);
        int before = x.lane(0, 0, 1) + 6;
        int due = before <= 0 ? 0 : (before + 3) / 4 * 4;
        Check.same("by the note before", x.rest(1), due);
        Check.isTrue("which is not by the note behind", x.lane(0, 1, 1) + 6 <= due - 4);
        x = of(3, 4, 99, 4);
        x.note(0, 1, 2, 0);
        x.group();
        // VOICE 0 goes up now: NEAR 8, f 22; the rest is at 8.
        Check.same("with VOICE 1", x.rest(1), 8);
        x = new StemBeams();
        x.over(true);
        x.note(0, 1, 4, 0);
        x.pause(1, 4, 0);
        x.note(0, 1, 4, 0);
        x.group();
        // Down from NEAR 0: f -14, LEVEL 2 at -11, -5 is 6 from it, on to -4; it would be at -8.
        Check.same("VOICE 1's", x.rest(1), -4);
    }

    private static void restsFeathered() {
        Check.promise(19, "within a FEATHERED beam");
        StemBeams x = of(4, -4, 99, -4);
        x.feather(0, 1);
        // The lane at note 0 is at 5 now: -1, on to -4.
        Check.same("to the right", x.rest(1), -4);
        // f 8: LEVEL 2 at 5, -1 is 6 from it, on to -4; to the right it is at 8.
        x = of(4, -3, 99, -3);
        Check.same("not feathered", x.rest(1), -4);
        x.feather(0, 1);
        Check.same("feathered to the right", x.rest(1), 0);
        x.feather(0, 2);
        Check.same("feathered to the left", x.rest(1), -4);
    }

    private static void restsThatStay() {
        Check.promise(19, "at least 6 from the last LANE");
        // VOICE 0 of two, up: NEAR 0, f 14; 8 is just 6 from it.
        StemBeams x = of(3, 0, 99, 0);
        x.pause(1, 2, 0);
        x.group();
        Check.same("just 6", x.rest(1), 8);
        // NEAR -2, f 12, no wedge: 6 is 6 from it, on to 4.
        x = of(3, -1, 99, -1);
        x.pause(1, 2, 0);
        x.group();
        Check.same("5 is too near", x.rest(1), 4);
        x = of(3, 4, 99, 4);
        x.note(4, 0, 3, 0);
        x.mark(3, 1);
        x.group();
        Check.same("a beam, and one behind that is CUT", x.rest(1), 4);
        x.mark(2, 1);
        x.group();
        Check.same("no beam round it", x.rest(1), 0);
    }

    private static void restsBetween() {
        Check.promise(19, "BETWEEN it goes nowhere");
        StemBeams x = of(4, 5, 99, -5);
        x.staff(2, 1);
        x.group();
        Check.same("a beam", x.count(1), 1);
        Check.same("BETWEEN it goes nowhere", x.rest(1), 0);
        x = of(4, 12, 99, 12);
        x.staff(2, 1);
        x.group();
        // NEAR 24 and -24: the beam lies about the rest.
        Check.same("BETWEEN", x.beam(0, 2), 0);
        Check.same("nowhere at all", x.rest(1), 0);
    }
}
