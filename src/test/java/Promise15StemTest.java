/** Promise 15: stem, sentence by sentence. */
public final class Promise15StemTest {
    public static void main(String[] args) {
        unknown();
        bounds();
        ofARest();
        valueZero();
        order();
        directionAlone();
        directionOfTwoVoices();
        nearOfChords();
        wantOfLevels();
        wantToTheMiddleLine();
        flags();
        ofABeam();
        between();
        ofAnOpenBeam();
        byTheBeamsThatAreNow();
        Check.end();
    }

    private static StemBeams single(int place, int value) {
        StemBeams x = new StemBeams();
        x.note(place, 0, value, 0);
        return x;
    }

    /** direction, end, LENGTH, FLAGS, beam */
    private static void stem(String what, StemBeams x, int note, int... due) {
        int[] got = new int[5];
        for (int i = 0; i < got.length; i++) {
            got[i] = x.stem(note, i);
        }
        Check.row(what, got, due);
    }

    private static void unknown() {
        Check.promise(15, "UNKNOWN: no such event");
        for (int note : Score.NO_NUMBERS) {
            for (int what = 0; what <= 4; what++) {
                Check.same("stem(" + note + ", " + what + ")", Score.rich().stem(note, what), Score.UNKNOWN);
            }
        }
        Check.same("the one behind the last", Score.rich().stem(8, 0), Score.UNKNOWN);
        Check.same("the last", Score.rich().stem(7, 0), -1);
        Check.same("the 64th", Score.full().stem(63, 0), -1);
        Check.same("of no events", new StemBeams().stem(0, 4), Score.UNKNOWN);
    }

    private static void bounds() {
        Check.promise(15, "what is 0 to 4: OUTSIDE");
        for (int what : new int[] {-1, 5, Score.LOW, Score.HIGH}) {
            Check.same("stem(0, " + what + ")", Score.rich().stem(0, what), Score.OUTSIDE);
        }
        for (int what = 0; what <= 4; what++) {
            Check.isTrue("stem(0, " + what + ")", Score.rich().stem(0, what) > -1000);
        }
    }

    private static void ofARest() {
        Check.promise(15, "STATE: a REST");
        for (int value = 0; value <= 6; value++) {
            StemBeams x = new StemBeams();
            x.pause(0, value, 0);
            stem("VALUE " + value, x, 0, Score.STATE, Score.STATE, Score.STATE, Score.STATE, Score.STATE);
        }
    }

    private static void valueZero() {
        Check.promise(15, "NONE: VALUE 0 (0 to 3)");
        int no = Score.NONE;
        stem("VALUE 0", single(0, 0), 0, no, no, no, no, no);
        stem("VALUE 1", single(0, 1), 0, -1, -14, 14, 0, no);
    }

    private static void order() {
        Check.promise(15, "UNKNOWN, then OUTSIDE, then STATE, then NONE");
        StemBeams x = new StemBeams();
        x.note(0, 0, 0, 0);
        x.pause(0, 0, 0);
        Check.same("UNKNOWN before OUTSIDE", x.stem(2, 5), Score.UNKNOWN);
        Check.same("OUTSIDE before STATE", x.stem(1, 5), Score.OUTSIDE);
        Check.same("OUTSIDE before STATE", x.stem(1, -1), Score.OUTSIDE);
        Check.same("OUTSIDE before NONE", x.stem(0, 5), Score.OUTSIDE);
        Check.same("OUTSIDE before NONE", x.stem(0, -1), Score.OUTSIDE);
        Check.same("STATE before NONE", x.stem(1, 0), Score.STATE);
    }

    private static void directionAlone() {
        Check.promise(15, "the sum of its highest and its lowest HEAD: below 0 up, else down");
        Check.same("-1", single(-1, 2).stem(0, 0), 1);
        Check.same("0", single(0, 2).stem(0, 0), -1);
        Check.same("1", single(1, 2).stem(0, 0), -1);
        StemBeams x = single(4, 2);
        x.also(0, -5);
        Check.same("a chord, -1", x.stem(0, 0), 1);
        x.also(0, 5);
        Check.same("a chord, 0", x.stem(0, 0), -1);
        x.also(0, -6);
        Check.same("a chord, -1 again", x.stem(0, 0), 1);
        x = single(-1, 2);
        x.staff(0, 1);
        Check.same("-1 on STAFF 1", x.stem(0, 0), 1);
        x = single(0, 2);
        x.staff(0, 1);
        Check.same("0 on STAFF 1", x.stem(0, 0), -1);
    }

    private static void directionOfTwoVoices() {
        Check.promise(15, "when VOICE 1 has events, VOICE 0 goes up, VOICE 1 down");
        StemBeams x = single(12, 2);
        x.pause(1, 6, 0);
        Check.same("VOICE 0, with a REST of VOICE 1", x.stem(0, 0), 1);
        x.note(-12, 1, 2, 0);
        Check.same("VOICE 1", x.stem(2, 0), -1);
        x = new StemBeams();
        x.note(-12, 1, 2, 0);
        Check.same("VOICE 1 alone", x.stem(0, 0), -1);
        x = single(12, 2);
        x.pause(1, 0, 1);
        Check.same("a refused event is none", x.stem(0, 0), -1);
    }

    private static void nearOfChords() {
        Check.promise(15, "NEAR is its highest HEAD, if it goes up, else the lowest");
        StemBeams x = single(-3, 2);
        x.also(0, -6);
        stem("up", x, 0, 1, 8, 14, 0, Score.NONE);
        x = single(3, 2);
        x.also(0, 6);
        stem("down", x, 0, -1, -8, 14, 0, Score.NONE);
        x.staff(0, 1);
        stem("on STAFF 1", x, 0, -1, -56, 14, 0, Score.NONE);
    }

    private static void wantOfLevels() {
        Check.promise(15, "WANT is 14, 3 more for each of its LEVELS above 2");
        int[] due = {14, 14, 14, 14, 17, 20};
        for (int value = 1; value <= 6; value++) {
            Check.same("LENGTH of VALUE " + value, single(2, value).stem(0, 2), due[value - 1]);
            Check.same("end of VALUE " + value, single(2, value).stem(0, 1), 4 - due[value - 1]);
        }
    }

    private static void wantToTheMiddleLine() {
        Check.promise(15, "by more than WANT above NEAR, WANT is what it is above, likewise below");
        int[] wants = {14, 14, 14, 14, 17, 20};
        for (int value = 1; value <= 6; value++) {
            int want = wants[value - 1];
            for (int place = 1; place <= 12; place++) {
                int due = 2 * place > want ? 2 * place : want;
                Check.same("VALUE " + value + ", " + place + " above", single(place, value).stem(0, 2), due);
                Check.same("VALUE " + value + ", " + place + " below", single(-place, value).stem(0, 2), due);
            }
        }
        StemBeams x = single(-8, 2);
        x.staff(0, 1);
        Check.same("up to its own STAFF's", x.stem(0, 1), -48);
        x = single(12, 2);
        x.pause(1, 6, 0);
        Check.same("up from above it stays 14", x.stem(0, 2), 14);
        x = new StemBeams();
        x.note(-12, 1, 2, 0);
        Check.same("down from below it stays 14", x.stem(0, 2), 14);
    }

    private static void flags() {
        Check.promise(15, "FLAGS, as many as it has LEVELS");
        int[] due = {0, 0, 1, 2, 3, 4};
        for (int value = 1; value <= 6; value++) {
            Check.same("VALUE " + value, single(0, value).stem(0, 3), due[value - 1]);
        }
        StemBeams x = Score.of(6, 0, 0);
        Check.same("in a beam none", x.stem(0, 3), 0);
    }

    private static void ofABeam() {
        Check.promise(15, "of a beam: its end is the beam's height");
        // f -13, SLANT 2 from NEAR 0 and 4.
        StemBeams x = Score.of(3, 0, 2);
        stem("first", x, 0, -1, -13, 13, 0, 0);
        stem("last", x, 1, -1, -11, 15, 0, 0);
        x = Score.of(3, -4, -5, -3);
        // f 4, SLANT 1: 4, 5, 5 from NEAR -8, -10, -6.
        stem("first, up", x, 0, 1, 4, 12, 0, 0);
        stem("inner, up", x, 1, 1, 5, 15, 0, 0);
        stem("last, up", x, 2, 1, 5, 11, 0, 0);
        Check.same("in the second beam", Score.rich().stem(4, 4), 1);
    }

    private static void between() {
        Check.promise(15, "BETWEEN: notes of STAFF 0 go down, those of STAFF 1 up");
        StemBeams x = Score.toStaff1(Score.of(3, 5, -5), 1);
        stem("STAFF 0", x, 0, -1, -23, 33, 0, 0);
        stem("STAFF 1", x, 1, 1, -25, 33, 0, 0);
        x = Score.toStaff1(Score.upper(3, 5, -5), 1);
        Check.same("VOICE 0 of two, STAFF 0", x.stem(0, 0), -1);
        Check.same("VOICE 0 of two, STAFF 1", x.stem(1, 0), 1);
        x = Score.toStaff1(Score.of(3, 5, -5), 1);
        x.also(0, 9);
        x.also(1, -9);
        x.group();
        Check.same("NEAR is the lowest HEAD of STAFF 0", x.stem(0, 2), 10 - x.stem(0, 1));
        Check.same("NEAR is the highest HEAD of STAFF 1", x.stem(1, 2), x.stem(1, 1) + 58);
    }

    private static void ofAnOpenBeam() {
        Check.promise(15, "notes of an OPEN beam are alone");
        StemBeams x = Score.toStaff1(Score.of(3, -12, 12), 1);
        Check.same("OPEN", x.count(2), 1);
        stem("STAFF 0", x, 0, 1, 0, 24, 1, Score.NONE);
        stem("STAFF 1", x, 1, -1, -48, 24, 1, Score.NONE);
    }

    private static void byTheBeamsThatAreNow() {
        Check.promise(15, "by the beams that are now");
        StemBeams x = Score.wide();
        Score.add(x, 0, 3, 0, 2);
        stem("before group()", x, 1, -1, -10, 14, 1, Score.NONE);
        x.group();
        stem("after it", x, 1, -1, -11, 15, 0, 0);
        x.mark(1, 0);
        stem("taken away", x, 1, -1, -10, 14, 1, Score.NONE);
        x.group();
        stem("made anew", x, 1, -1, -11, 15, 0, 0);
    }
}
