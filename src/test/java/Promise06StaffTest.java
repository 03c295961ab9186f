/** Promise 6: staff, sentence by sentence. */
public final class Promise06StaffTest {
    public static void main(String[] args) {
        onWhichItWas();
        unknown();
        staffBounds();
        ofARest();
        order();
        takesBeamsAway();
        Check.end();
    }

    private static void onWhichItWas() {
        Check.promise(6, "on which it was");
        StemBeams x = new StemBeams();
        x.note(0, 0, 2, 0);
        x.note(0, 0, 2, 0);
        Check.same("STAFF 0 at first", x.staff(0, 1), 0);
        Check.same("now 1", x.staff(0, 1), 1);
        Check.same("1 still", x.staff(0, 0), 1);
        Check.same("0 again", x.staff(0, 0), 0);
        Check.same("another NOTE", x.staff(1, 1), 0);
        Check.same("the first one stays", x.staff(0, 0), 0);
        Check.same("on STAFF 1 it is 48 lower", x.stem(1, 1), -62);
        Check.same("on STAFF 0", x.stem(0, 1), -14);
    }

    private static void unknown() {
        Check.promise(6, "UNKNOWN: no such event");
        for (int note : Score.NO_NUMBERS) {
            Score.refused("staff(" + note + ", 1)", Score::rich, x -> x.staff(note, 1), Score.UNKNOWN);
        }
        Score.refused("the one behind the last", Score::rich, x -> x.staff(8, 1), Score.UNKNOWN);
        Check.same("the last", Score.rich().staff(7, 1), 0);
        Check.same("the 64th", Score.full().staff(63, 1), 0);
    }

    private static void staffBounds() {
        Check.promise(6, "STAVES are 0 and 1");
        for (int s : new int[] {-1, 2, Score.LOW, Score.HIGH}) {
            Score.refused("staff(0, " + s + ")", Score::rich, x -> x.staff(0, s), Score.OUTSIDE);
            Score.refused("staff(4, " + s + ")", Score::rich, x -> x.staff(4, s), Score.OUTSIDE);
        }
    }

    private static void ofARest() {
        Check.promise(6, "STATE: a REST");
        Score.refused("staff(1, 0)", Score::rich, x -> x.staff(1, 0), Score.STATE);
        Score.refused("staff(1, 1)", Score::rich, x -> x.staff(1, 1), Score.STATE);
    }

    private static void order() {
        Check.promise(6, "UNKNOWN, then OUTSIDE, then STATE");
        Score.refused("UNKNOWN before OUTSIDE", Score::rich, x -> x.staff(8, 2), Score.UNKNOWN);
        Score.refused("OUTSIDE before STATE", Score::rich, x -> x.staff(1, 2), Score.OUTSIDE);
    }

    private static void takesBeamsAway() {
        Check.promise(6, "it takes all beams away, if it is not refused");
        StemBeams x = Score.rich();
        x.staff(0, 2);
        x.staff(1, 0);
        x.staff(8, 0);
        Check.same("beams, refused", x.count(1), 3);
        x.staff(0, 0);
        Check.same("beams, though it was on STAFF 0", x.count(1), 0);
        Check.same("the beam of 7", x.stem(7, 4), Score.NONE);
        x.group();
        x.staff(0, 1);
        Check.same("beams", x.count(1), 0);
    }
}
