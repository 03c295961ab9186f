/** Promise 11: beam, sentence by sentence; with it where beams lie. */
public final class Promise11BeamTest {
    public static void main(String[] args) {
        unknown();
        bounds();
        howMany();
        greatestLevel();
        oneStaffTwoVoices();
        sumOfHeads();
        sumZero();
        between();
        flatByE();
        flatByAnInnerNote();
        idealBounds();
        idealOfFlat();
        justCanLie();
        upTo12Behind();
        slantBounds();
        flatZeroAlone();
        firstHeight();
        firstSlant();
        betweenHeights();
        betweenJustCan();
        feathered();
        Check.end();
    }

    /** direction, f, SLANT, IDEAL, FLAT */
    private static void lies(String what, StemBeams x, int... due) {
        int[] got = new int[5];
        for (int i = 0; i < got.length; i++) {
            got[i] = x.beam(0, i + 2);
        }
        Check.row(what, got, due);
    }

    private static void unknown() {
        Check.promise(11, "UNKNOWN: no such beam");
        for (int i : Score.NO_NUMBERS) {
            Check.same("beam(" + i + ", 0)", Score.rich().beam(i, 0), Score.UNKNOWN);
            Check.same("UNKNOWN before OUTSIDE", Score.rich().beam(i, 8), Score.UNKNOWN);
        }
        Check.same("the last one", Score.rich().beam(2, 0), 3);
        Check.same("the one behind", Score.rich().beam(3, 0), Score.UNKNOWN);
        Check.same("before group()", new StemBeams().beam(0, 0), Score.UNKNOWN);
    }

    private static void bounds() {
        Check.promise(11, "what is 0 to 7: OUTSIDE");
        for (int what : new int[] {-1, 8, Score.LOW, Score.HIGH}) {
            Score.refused("beam(0, " + what + ")", Score::rich, x -> x.beam(0, what), Score.OUTSIDE);
        }
        for (int what = 0; what <= 7; what++) {
            Check.isTrue("beam(0, " + what + ")", Score.rich().beam(0, what) > -1000);
        }
    }

    private static void howMany() {
        Check.promise(11, "how many notes (0)");
        Check.same("two", Score.of(3, 0, 0).beam(0, 0), 2);
        Check.same("RESTS within are none", Score.of(3, 0, Score.REST, 0).beam(0, 0), 2);
        Check.same("16", Score.of(4, new int[17]).beam(0, 0), 16);
    }

    private static void greatestLevel() {
        Check.promise(11, "its greatest LEVEL (1)");
        for (int value = 3; value <= 6; value++) {
            Check.same("VALUE " + value, Score.of(value, 0, 0).beam(0, 1), value - 2);
            for (int at = 0; at < 3; at++) {
                StemBeams x = Score.wide();
                for (int i = 0; i < 3; i++) {
                    x.note(0, 0, i == at ? value : 3, 0);
                }
                x.group();
                Check.same("VALUE " + value + " at " + at, x.beam(0, 1), value - 2);
            }
        }
        StemBeams x = Score.wide();
        x.note(0, 0, 3, 0);
        x.pause(0, 6, 0);
        x.note(0, 0, 3, 0);
        x.group();
        Check.same("a REST has none", x.beam(0, 1), 1);
    }

    private static void oneStaffTwoVoices() {
        Check.promise(11, "when VOICE 1 has events, VOICE 0 goes up, VOICE 1 down");
        Check.same("VOICE 0, high up", Score.upper(3, 12, 12).beam(0, 2), 1);
        Check.same("VOICE 1, low down", Score.lower(3, -12, -12).beam(0, 2), -1);
        StemBeams x = Score.upper(3, 12, 12);
        Check.same("on STAFF 1 likewise", Score.toStaff1(x, 0, 1).beam(0, 2), 1);
        x = Score.lower(3, -12, -12);
        Check.same("VOICE 1 on STAFF 1", Score.toStaff1(x, 0, 1).beam(0, 2), -1);
        Check.same("VOICE 0 alone", Score.of(3, 12, 12).beam(0, 2), -1);
    }

    private static void sumOfHeads() {
        Check.promise(11, "the sum of the highest and the lowest HEAD of all its notes: below 0 up, above 0 down");
        Check.same("1 below", Score.of(3, -5, 4).beam(0, 2), 1);
        Check.same("1 above", Score.of(3, -4, 5).beam(0, 2), -1);
        Check.same("of an inner note, above", Score.of(3, -4, 5, -4, -4).beam(0, 2), -1);
        Check.same("of an inner note, below", Score.of(3, 4, -5, 4, 4).beam(0, 2), 1);
        StemBeams x = Score.of(3, -4, 4);
        x.also(0, 5);
        x.group();
        Check.same("a HEAD of a chord, above", x.beam(0, 2), -1);
        x.also(1, -6);
        x.group();
        Check.same("a HEAD of a chord, below", x.beam(0, 2), 1);
        x = Score.of(3, -5, 4);
        Check.same("over the middle line of STAFF 1: 1 below", Score.toStaff1(x, 0, 1).beam(0, 2), 1);
        x = Score.of(3, -4, 5);
        Check.same("over the middle line of STAFF 1: 1 above", Score.toStaff1(x, 0, 1).beam(0, 2), -1);
    }

    private static void sumZero() {
        Check.promise(11, "with 0 what more of its notes would have alone, of as many down");
        Check.same("as many", Score.of(3, -4, 4).beam(0, 2), -1);
        Check.same("as many, two and two", Score.of(3, -4, 4, -1, 1).beam(0, 2), -1);
        Check.same("one more up", Score.of(3, -4, 4, -1).beam(0, 2), 1);
        Check.same("one more down", Score.of(3, -4, 4, 1).beam(0, 2), -1);
        Check.same("on the middle line it goes down", Score.of(3, -4, 4, 0).beam(0, 2), -1);
        Check.same("up twice, down twice with the middle line", Score.of(3, -4, 4, 0, -1).beam(0, 2), -1);
        Check.same("all on the middle line", Score.of(3, 0, 0).beam(0, 2), -1);
        StemBeams x = Score.of(3, -4, 4, -1);
        Check.same("on STAFF 1", Score.toStaff1(x, 0, 1, 2).beam(0, 2), 1);
        x = Score.of(3, -4, 4);
        x.also(1, -4);
        x.group();
        Check.same("a chord of sum 0 goes down", x.beam(0, 2), -1);
    }

    private static void between() {
        Check.promise(11, "a beam with notes on both STAVES lies BETWEEN (0)");
        for (int at = 0; at < 3; at++) {
            Check.same("note " + at + " on STAFF 1", Score.toStaff1(Score.of(3, 5, 5, 5), at).beam(0, 2), 0);
        }
        Check.same("two on STAFF 1", Score.toStaff1(Score.of(3, 5, 5, 5), 0, 2).beam(0, 2), 0);
        Check.same("with two voices", Score.toStaff1(Score.upper(3, 5, 5), 1).beam(0, 2), 0);
        Check.same("all on STAFF 1", Score.toStaff1(Score.of(3, 5, 5, 5), 0, 1, 2).beam(0, 2), -1);
    }

    private static void flatByE() {
        Check.promise(11, "FLAT, if e is 0");
        Check.same("e 0", Score.of(3, 1, 1).beam(0, 6), 1);
        Check.same("e 2", Score.of(3, 1, 2).beam(0, 6), 0);
        Check.same("e -2", Score.of(3, 2, 1).beam(0, 6), 0);
        Check.same("e 0, up", Score.of(3, -1, -1).beam(0, 6), 1);
        Check.same("e 0, an inner one on the other side", Score.of(3, 1, 3, 1).beam(0, 6), 1);
        StemBeams x = Score.of(3, 5, 1);
        x.also(0, 1);
        x.group();
        Check.same("NEAR is the lowest HEAD, down", x.beam(0, 6), 1);
        x = Score.of(3, -5, -1);
        x.also(0, -1);
        x.group();
        Check.same("NEAR is the highest HEAD, up", x.beam(0, 6), 1);
    }

    private static void flatByAnInnerNote() {
        Check.promise(11, "FLAT, if an inner note's NEAR is farther in the beam's direction than both ends'");
        Check.same("down, lower than both", Score.of(3, 3, 1, 2).beam(0, 6), 1);
        Check.same("down, as low as the lower one", Score.of(3, 3, 2, 2).beam(0, 6), 0);
        Check.same("down, as low as the first one", Score.of(3, 2, 2, 3).beam(0, 6), 0);
        Check.same("down, lower than one", Score.of(3, 4, 3, 2).beam(0, 6), 0);
        Check.same("down, higher than both", Score.of(3, 3, 5, 2).beam(0, 6), 0);
        Check.same("up, higher than both", Score.of(3, -3, -1, -2).beam(0, 6), 1);
        Check.same("up, as high as the higher one", Score.of(3, -3, -2, -2).beam(0, 6), 0);
        Check.same("up, as high as the first one", Score.of(3, -2, -2, -3).beam(0, 6), 0);
        Check.same("up, higher than one", Score.of(3, -4, -3, -2).beam(0, 6), 0);
        Check.same("up, lower than both", Score.of(3, -3, -5, -2).beam(0, 6), 0);
        Check.same("the second of four", Score.of(3, 4, 1, 5, 2).beam(0, 6), 1);
        Check.same("the third of four", Score.of(3, 4, 5, 1, 2).beam(0, 6), 1);
        Check.same("two notes have no inner one", Score.of(3, 4, 1).beam(0, 6), 0);
    }

    private static void idealBounds() {
        Check.promise(11, "IDEAL is e / 2, but -6 to 6");
        for (int up = 1; up <= 10; up++) {
            Check.same("e " + 2 * up, Score.of(3, 1, 1 + up).beam(0, 5), Math.min(6, up));
            Check.same("e " + -2 * up, Score.of(3, 1 + up, 1).beam(0, 5), -Math.min(6, up));
        }
        Check.same("e 24", Score.upper(3, 0, 12).beam(0, 5), 6);
        Check.same("e 48", Score.upper(3, -12, 12).beam(0, 5), 6);
        Check.same("e -48", Score.upper(3, 12, -12).beam(0, 5), -6);
        Check.same("inner notes do not count", Score.of(3, 1, 9, 4).beam(0, 5), 3);
    }

    private static void idealOfFlat() {
        Check.promise(11, "IDEAL is 0, if it is FLAT, and BETWEEN, which is not FLAT");
        Check.same("FLAT, e 2", Score.of(3, 3, 1, 4).beam(0, 5), 0);
        Check.same("FLAT, e -2", Score.of(3, 4, 1, 3).beam(0, 5), 0);
        StemBeams x = Score.toStaff1(Score.of(3, 2, 2, 8), 1);
        Check.same("BETWEEN, e 12: IDEAL", x.beam(0, 5), 0);
        Check.same("BETWEEN, e 12: FLAT", x.beam(0, 6), 0);
        x = Score.toStaff1(Score.of(3, 5, 5, 5), 1);
        Check.same("BETWEEN, e 0: FLAT", x.beam(0, 6), 0);
        x = Score.toStaff1(Score.of(3, 5, 1, -5, 6), 2);
        Check.same("BETWEEN, an inner one lower: FLAT", x.beam(0, 6), 0);
    }

    private static void justCanLie() {
        Check.promise(11, "it can lie so, if no LENGTH is less than LEAST");
        // NEAR 24 within, all others want 14 from 0: at 34 its LENGTH is 10.
        lies("up", Score.upper(3, 0, 0, 12, 0, 0), 1, 34, 0, 0, 1);
        lies("down", Score.lower(3, 0, 0, -12, 0, 0), -1, -34, 0, 0, 1);
        Check.same("LENGTH", Score.upper(3, 0, 0, 12, 0, 0).stem(2, 2), 10);
        // LEAST is 13 and 16 with LEVELS 3 and 4.
        lies("LEVELS 3", Score.upper(5, 0, 0, 12, 0, 0), 1, 37, 0, 0, 1);
        lies("LEVELS 4", Score.lower(6, 0, 0, -12, 0, 0), -1, -40, 0, 0, 1);
    }

    private static void upTo12Behind() {
        Check.promise(11, "heights up to 12 behind the one at which the beam of SLANT 0 just can lie");
        // NEAR -22 and WANT 22: it just can lie at -12, 0 is 12 behind.
        lies("12 behind, up", Score.of(3, -11, -11), 1, 0, 0, 0, 1);
        lies("12 behind, down", Score.of(3, 11, 11), -1, 0, 0, 0, 1);
        // NEAR -24 and WANT 24: up to -2, which is a wedge: -3, at 11 behind, is better.
        lies("not 14 behind, up", Score.of(3, -12, -12), 1, -3, 0, 0, 1);
        lies("not 14 behind, down", Score.of(3, 12, 12), -1, 3, 0, 0, 1);
        // With six notes the wedges weigh less: 6 (2 2) + 50 at -2, 6 (3 3) at -3.
        lies("11 behind, six notes", Score.of(3, -12, -12, -12, -12, -12, -12), 1, -3, 0, 0, 1);
        // With twelve: 12 (2 2) + 50 = 98 at -2, 12 (3 3) = 108 at -3; 0 would have 0.
        lies("12 behind, though 14 were better", Score.of(3, new int[] {-12, -12, -12, -12, -12, -12, -12, -12, -12, -12, -12, -12}),
            1, -2, 0, 0, 1);
        // LEAST 16 of one note: it just can lie at -8, so that 0 is tried.
        for (int first = 3; first <= 6; first += 3) {
            StemBeams x = Score.wide();
            x.note(-12, 0, first, 0);
            x.note(-12, 0, 9 - first, 0);
            x.group();
            lies("by the LEAST of each note, up", x, 1, 0, 0, 0, 1);
            x = Score.wide();
            x.note(12, 0, first, 0);
            x.note(12, 0, 9 - first, 0);
            x.group();
            lies("by the LEAST of each note, down", x, -1, 0, 0, 0, 1);
        }
    }

    private static void slantBounds() {
        Check.promise(11, "SLANTS up to 6 and -6");
        Check.same("6", Score.of(3, 1, 12).beam(0, 4), 6);
        Check.same("-6", Score.of(3, 12, 1).beam(0, 4), -6);
        Check.same("6, up", Score.of(3, -12, -1).beam(0, 4), 6);
        Check.same("-6, up", Score.of(3, -1, -12).beam(0, 4), -6);
    }

    private static void flatZeroAlone() {
        Check.promise(11, "FLAT: SLANT 0 alone");
        // NEAR 4, 2, then 20 six times with WANT 20: at -8 off by -2, -4, 8 ..; SLANT 1 would be better.
        StemBeams x = Score.of(3, 2, 1, 10, 10, 10, 10, 10, 10);
        lies("FLAT", x, -1, -8, 0, 0, 1);
        Check.isTrue("though SLANT 1 were better", x.other(0, -8, 1) < x.badness(0));
    }

    private static void firstHeight() {
        Check.promise(11, "of like ones the first: heights in the beam's direction");
        // 6 is a wedge; 5 and 7 are off by 1 both.
        lies("up", Score.of(3, -4, -4), 1, 5, 0, 0, 1);
        lies("down", Score.of(3, 4, 4), -1, -5, 0, 0, 1);
        // BETWEEN from -48 upwards: NEAR -8 (WANT 14) and -40 (WANT 17) leave 1 over at -23 and at -22.
        StemBeams x = Score.wide();
        x.note(-4, 0, 3, 0);
        x.note(4, 0, 5, 0);
        lies("BETWEEN", Score.toStaff1(x, 1), 0, -23, 0, 0, 0);
        Check.same("badness", x.badness(0), 1);
        Check.same("the second one's", x.other(0, -22, 0), 1);
    }

    private static void tie(String what, StemBeams x, int f, int s, long badness, int otherF, int otherS) {
        Check.same(what + ": f", x.beam(0, 3), f);
        Check.same(what + ": SLANT", x.beam(0, 4), s);
        Check.same(what + ": badness", x.badness(0), badness);
        Check.same(what + ": the other one's", x.other(0, otherF, otherS), badness);
    }

    private static void firstSlant() {
        Check.promise(11, "of like ones the first: SLANTS 0, 1, -1, 2, -2, ..");
        // NEAR -16, -14, -14, WANT 20, 14, 17: off -1 3 0 and 8 for the SLANT, or -1 4 1.
        StemBeams x = Score.wide();
        x.note(-8, 0, 6, 0);
        x.note(-7, 0, 4, 0);
        x.note(-7, 0, 5, 0);
        x.group();
        tie("0 before 1", x, 3, 0, 18, 3, 1);
        x = Score.wide();
        x.note(8, 0, 6, 0);
        x.note(7, 0, 5, 0);
        x.note(7, 0, 4, 0);
        x.group();
        tie("0 before -1", x, -3, 0, 18, -3, -1);
        // NEAR -8, -10, -6: off -2 1 -3, or -1 2 -1 and 8.
        tie("1 before 2", Score.of(3, -4, -5, -3), 4, 1, 14, 5, 2);
        // NEAR -38 (up), 24 (down), -56 (up): off 5 28 24 and 8, or 6 29 22 and 32.
        tie("1 before -2", Score.toStaff1(Score.of(3, 5, 12, -4), 0, 2), -19, 1, 1393, -18, -2);
        // NEAR -2 (down), -68, -32 (up): off 5 32 -4 and 8, or 8 31 -4 and 32.
        tie("-1 before 2", Score.toStaff1(Score.of(3, -1, -10, 8), 1, 2), -21, -1, 1073, -24, 2);
    }

    private static void betweenHeights() {
        Check.promise(11, "BETWEEN: f from -48 up to 0");
        // NEAR 24, 24 (down) and -24 (up): off 10, 10 and 10 at 0; at 3 it were 7, 7, 13.
        StemBeams x = Score.toStaff1(Score.of(3, 12, 12, 12), 2);
        lies("0", x, 0, 0, 0, 0, 0);
        Check.isTrue("beyond it were better", x.other(0, 3, 0) < x.badness(0));
        x = Score.toStaff1(Score.of(3, -12, -12, -12), 0, 1);
        lies("-48", x, 0, -48, 0, 0, 0);
        Check.isTrue("before it were better", x.other(0, -51, 0) < x.badness(0));
    }

    private static void betweenJustCan() {
        Check.promise(11, "BETWEEN perhaps none can: it is OPEN");
        // NEAR -10 (down) and -24 (up): 14 apart, 10 and 10 with SLANT 6.
        StemBeams x = Score.toStaff1(Score.of(3, -5, 12), 1);
        lies("14 apart, SLANT 6", x, 0, -20, 6, 0, 0);
        Check.same("badness", x.badness(0), 16 + 16 + 8 * 36);
        x = Score.toStaff1(Score.of(3, 12, -5), 0);
        lies("14 apart, SLANT -6", x, 0, -14, -6, 0, 0);
        x = Score.toStaff1(Score.of(3, -6, 12), 1);
        Check.same("12 apart", x.beam(0, 0), Score.UNKNOWN);
        Check.same("12 apart, OPEN", x.count(2), 1);
        // LEAST 16 and 16: 26 apart with SLANT 6.
        lies("26 apart, LEVELS 4", Score.toStaff1(Score.of(6, 0, 11), 1), 0, -16, 6, 0, 0);
        Check.same("24 apart, LEVELS 4", Score.toStaff1(Score.of(6, 0, 12), 1).count(2), 1);
    }

    private static void feathered() {
        Check.promise(11, "FEATHERED (7: 0 not, 1 to the right, 2 to the left)");
        StemBeams x = Score.of(4, 0, 0);
        Check.same("not at first", x.beam(0, 7), 0);
        for (int way : new int[] {1, 2, 0}) {
            x.feather(0, way);
            Check.same("now", x.beam(0, 7), way);
        }
    }
}
