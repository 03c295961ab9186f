/** Promise 19: rest, sentence by sentence. */
public final class Promise19RestTest {
    private static final int R = Score.REST;

    public static void main(String[] args) {
        unknown();
        ofANote();
        alone();
        withVoice1();
        atLeast6Up();
        atLeast6Down();
        onToAMultipleOf4Up();
        onToAMultipleOf4Down();
        voice0Alone();
        lastLane();
        atTheNoteBefore();
        featheredLanes();
        within();
        severalWithin();
        between();
        ofAnOpenBeam();
        onStaff1();
        Check.end();
    }

    private static void unknown() {
        Check.promise(19, "UNKNOWN: no such event");
        for (int event : Score.NO_NUMBERS) {
            Check.same("rest(" + event + ")", Score.rich().rest(event), Score.UNKNOWN);
        }
        Check.same("the one behind the last", Score.rich().rest(8), Score.UNKNOWN);
        Check.same("of no events", new StemBeams().rest(0), Score.UNKNOWN);
        StemBeams x = new StemBeams();
        for (int i = 0; i < 64; i++) {
            x.pause(0, 6, 0);
        }
        Check.same("the 64th", x.rest(63), 0);
        Check.same("behind it", x.rest(64), Score.UNKNOWN);
    }

    private static void ofANote() {
        Check.promise(19, "STATE: a NOTE");
        for (int note : new int[] {0, 2, 3, 7}) {
            Check.same("rest(" + note + ")", Score.rich().rest(note), Score.STATE);
        }
    }

    private static void alone() {
        Check.promise(19, "the middle line of STAFF 0");
        for (int value = 0; value <= 6; value++) {
            StemBeams x = new StemBeams();
            x.pause(0, value, 0);
            Check.same("VALUE " + value, x.rest(0), 0);
        }
    }

    private static void withVoice1() {
        Check.promise(19, "with VOICE 1 that has events 8 above for VOICE 0, 8 below for VOICE 1");
        StemBeams x = new StemBeams();
        x.pause(0, 2, 0);
        x.pause(0, 2, 0);
        Check.same("VOICE 1 has none", x.rest(0), 0);
        x.pause(1, 6, 0);
        Check.same("VOICE 0", x.rest(0), 8);
        Check.same("VOICE 0, later", x.rest(1), 8);
        Check.same("VOICE 1", x.rest(2), -8);
        x = new StemBeams();
        x.pause(1, 2, 0);
        Check.same("VOICE 1 alone", x.rest(0), -8);
        x.clear();
        x.pause(0, 2, 0);
        Check.same("after clear()", x.rest(0), 0);
    }

    /** A REST of VOICE 0 of two within a level beam whose last LANE is told, so that the numbers can be followed. */
    private static void up(int value, int place, int lane, int due) {
        StemBeams x = Score.upper(value, place, R, place);
        Check.same("the last LANE from PLACE " + place, x.lane(0, 0, value - 2), lane);
        Check.same("the REST below " + lane, x.rest(1), due);
    }

    private static void down(int value, int place, int lane, int due) {
        StemBeams x = Score.lower(value, place, R, place);
        Check.same("the last LANE from PLACE " + place, x.lane(0, 0, value - 2), lane);
        Check.same("the REST above " + lane, x.rest(1), due);
    }

    private static void atLeast6Up() {
        Check.promise(19, "it stays, if it is at least 6 from the last LANE, up");
        up(3, 1, 16, 8);
        up(4, 2, 15, 8);
        up(3, 0, 14, 8);
        up(4, 1, 13, 4);
        up(3, -1, 12, 4);
    }

    private static void atLeast6Down() {
        Check.promise(19, "it stays, if it is at least 6 from the last LANE, down");
        down(3, -1, -16, -8);
        down(4, -2, -15, -8);
        down(3, 0, -14, -8);
        down(4, -1, -13, -4);
        down(3, 1, -12, -4);
    }

    private static void onToAMultipleOf4Up() {
        Check.promise(19, "else it goes there (6 from it), and on to the next multiple of 4, up");
        // 6 from the LANE: 5, 4, 3, 2, 1, -1, -2, -4, -5, -6, -8.
        up(4, 0, 11, 4);
        up(3, -2, 10, 4);
        up(4, -1, 9, 0);
        up(3, -3, 8, 0);
        up(4, -2, 7, 0);
        up(3, -4, 5, -4);
        up(3, -5, 4, -4);
        up(4, -4, 2, -4);
        up(3, -6, 1, -8);
        up(3, -7, 0, -8);
        up(4, -6, -2, -8);
        up(4, -7, -3, -12);
    }

    private static void onToAMultipleOf4Down() {
        Check.promise(19, "else it goes there (6 from it), and on to the next multiple of 4, down");
        down(4, 0, -11, -4);
        down(3, 2, -10, -4);
        down(4, 1, -9, 0);
        down(3, 3, -8, 0);
        down(4, 2, -7, 0);
        down(3, 4, -5, 4);
        down(3, 5, -4, 4);
        down(4, 4, -2, 4);
        down(3, 6, -1, 8);
        down(3, 7, 0, 8);
        down(4, 6, 2, 8);
        down(4, 7, 3, 12);
    }

    private static void voice0Alone() {
        Check.promise(19, "of VOICE 0 alone, from the middle line");
        // LANE 8: 8 from it; 7: 7 from it.
        Check.same("8 away, up", Score.of(3, -3, R, -3).rest(1), 0);
        Check.same("7 away, up", Score.of(4, -2, R, -2).rest(1), 0);
        Check.same("5 away, up", Score.of(3, -4, R, -4).rest(1), -4);
        Check.same("8 away, down", Score.of(3, 3, R, 3).rest(1), 0);
        Check.same("7 away, down", Score.of(4, 2, R, 2).rest(1), 0);
        Check.same("5 away, down", Score.of(3, 4, R, 4).rest(1), 4);
    }

    private static void lastLane() {
        Check.promise(19, "the lane of the beam's greatest LEVEL");
        // At 16 (NEAR 2): LEVEL 1 leaves 8 alone, LEVEL 2 at 13 does not, though the note before has but one.
        StemBeams x = Score.wide();
        x.note(1, 0, 3, 0);
        x.pause(0, 3, 0);
        x.note(1, 0, 4, 0);
        x.pause(1, 6, 0);
        x.group();
        Check.same("LEVEL 2", x.lane(0, 0, 2), 13);
        Check.same("the REST", x.rest(1), 4);
        // At 22 (NEAR 2, WANT 20): LEVEL 4 at 13.
        x = Score.upper(6, 1, R, 1);
        Check.same("LEVEL 4", x.lane(0, 0, 4), 13);
        Check.same("the REST below it", x.rest(1), 4);
    }

    private static void atTheNoteBefore() {
        Check.promise(19, "the last LANE at the note before it");
        // NEAR -4, -4, 8: with SLANT 6 at 12, 15, 18; 6 from it are 6 and 9.
        StemBeams x = Score.upper(3, -2, R, -2, R, 4);
        Check.same("f", x.beam(0, 3), 12);
        Check.same("SLANT", x.beam(0, 4), 6);
        Check.same("by the first", x.rest(1), 4);
        Check.same("by the second", x.rest(3), 8);
        x = Score.lower(3, 2, R, 2, R, -4);
        Check.same("f, down", x.beam(0, 3), -12);
        Check.same("SLANT, down", x.beam(0, 4), -6);
        Check.same("by the first, down", x.rest(1), -4);
        Check.same("by the second, down", x.rest(3), -8);
    }

    private static void featheredLanes() {
        Check.promise(19, "the last LANE, FEATHERED or not");
        // At 16, LEVEL 2 at 13; to the right it is at 16 at note 0.
        StemBeams x = Score.upper(4, 1, R, 1, R, 1);
        Check.same("not, first", x.rest(1), 4);
        Check.same("not, second", x.rest(3), 4);
        x.feather(0, 1);
        Check.same("to the right, first", x.rest(1), 8);
        // ROUNDED 3 / 2 is 2: at 14.
        Check.same("to the right, second", x.rest(3), 8);
        x.feather(0, 2);
        Check.same("to the left, first", x.rest(1), 4);
        Check.same("to the left, second", x.rest(3), 8);
    }

    private static void within() {
        Check.promise(19, "within a beam: between two notes of it");
        StemBeams x = Score.upper(3, R, -4, -4, R);
        Check.same("before the first note", x.rest(0), 8);
        Check.same("behind the last one", x.rest(3), 8);
        x = Score.upper(3, -4, -4, R, -4, -4);
        Check.same("within", x.rest(2), -4);
        x.mark(3, 1);
        x.group();
        Check.same("between two beams", x.rest(2), 8);
        x = Score.upper(3, -4, R, -4, -4);
        x.over(false);
        x.group();
        Check.same("between a note and a beam", x.rest(1), 8);
        x = Score.upper(3, -4, R, -4);
        x.over(true);
        Check.same("the beams are taken away", x.rest(1), 8);
        x = Score.upper(3, -4, -4);
        x.pause(1, 3, 0);
        x.group();
        Check.same("VOICE 1's while VOICE 0 has a beam", x.rest(3), -8);
        x = Score.wide();
        x.note(-4, 0, 3, 0);
        x.pause(1, 3, 0);
        x.note(-4, 0, 3, 0);
        x.group();
        Check.same("VOICE 1's, told between two notes of VOICE 0's beam", x.rest(1), -8);
    }

    private static void severalWithin() {
        Check.promise(19, "each REST between two notes");
        StemBeams x = Score.upper(3, -4, R, R, R, -4);
        for (int i = 1; i <= 3; i++) {
            Check.same("REST " + i, x.rest(i), -4);
        }
        x = Score.wide();
        x.note(-4, 0, 3, 0);
        x.pause(1, 6, 0);
        x.pause(0, 3, 0);
        x.note(0, 1, 3, 0);
        x.note(-4, 0, 3, 0);
        x.group();
        Check.same("VOICE 1's events lie nowhere between", x.rest(2), -4);
    }

    private static void between() {
        Check.promise(19, "BETWEEN it goes nowhere");
        // NEAR 24 and -24: the beam lies near 0.
        StemBeams x = Score.toStaff1(Score.of(4, 12, R, 12), 2);
        Check.same("a beam BETWEEN", x.beam(0, 2), 0);
        Check.isTrue("near the REST", Math.abs(x.lane(0, 0, 2)) < 6);
        Check.same("of VOICE 0 alone", x.rest(1), 0);
        x = Score.toStaff1(Score.upper(4, 12, R, 12), 2);
        Check.same("of VOICE 0", x.rest(1), 8);
        x = Score.toStaff1(Score.lower(4, 12, R, 12), 2);
        Check.same("of VOICE 1", x.rest(1), -8);
    }

    private static void ofAnOpenBeam() {
        Check.promise(19, "an OPEN beam is none");
        StemBeams x = Score.toStaff1(Score.of(3, -12, R, 12), 2);
        Check.same("OPEN", x.count(2), 1);
        Check.same("the REST", x.rest(1), 0);
    }

    private static void onStaff1() {
        Check.promise(19, "the middle line of STAFF 0, though the notes are on STAFF 1");
        // Down from NEAR -40 at -53: 0 is far above; up from NEAR -56 at -43: -49, on to -52.
        StemBeams x = Score.toStaff1(Score.of(3, 4, R, 4), 0, 2);
        Check.same("f, down", x.beam(0, 3), -53);
        Check.same("down", x.rest(1), 0);
        x = Score.toStaff1(Score.of(3, -4, R, -4), 0, 2);
        Check.same("f, up", x.beam(0, 3), -43);
        Check.same("up", x.rest(1), -52);
    }
}
