/** Promise 7: mark, sentence by sentence. */
public final class Promise07MarkTest {
    public static void main(String[] args) {
        whatItWas();
        unknown();
        bounds();
        ofARest();
        order();
        oneOfBoth();
        takesBeamsAway();
        Check.end();
    }

    private static void whatItWas() {
        Check.promise(7, "what it was");
        StemBeams x = new StemBeams();
        x.note(0, 0, 2, 0);
        x.note(0, 0, 2, 0);
        int was = 0;
        for (int what : new int[] {0, 1, 1, 2, 2, 0, 2, 1, 0}) {
            Check.same("mark(0, " + what + ")", x.mark(0, what), was);
            was = what;
        }
        Check.same("another NOTE", x.mark(1, 2), 0);
        Check.same("the first one stays", x.mark(0, 0), 0);
    }

    private static void unknown() {
        Check.promise(7, "UNKNOWN: no such event");
        for (int note : Score.NO_NUMBERS) {
            Score.refused("mark(" + note + ", 1)", Score::rich, x -> x.mark(note, 1), Score.UNKNOWN);
        }
        Score.refused("the one behind the last", Score::rich, x -> x.mark(8, 1), Score.UNKNOWN);
        Check.same("the last", Score.rich().mark(7, 1), 0);
        Check.same("the 64th", Score.full().mark(63, 1), 0);
    }

    private static void bounds() {
        Check.promise(7, "CUT (1), JOINED (2), or none of both (0)");
        for (int what : new int[] {-1, 3, Score.LOW, Score.HIGH}) {
            Score.refused("mark(6, " + what + ")", Score::rich, x -> x.mark(6, what), Score.OUTSIDE);
        }
    }

    private static void ofARest() {
        Check.promise(7, "STATE: a REST");
        for (int what = 0; what <= 2; what++) {
            int its = what;
            Score.refused("mark(1, " + what + ")", Score::rich, x -> x.mark(1, its), Score.STATE);
        }
    }

    private static void order() {
        Check.promise(7, "UNKNOWN, then OUTSIDE, then STATE");
        Score.refused("UNKNOWN before OUTSIDE", Score::rich, x -> x.mark(8, 3), Score.UNKNOWN);
        Score.refused("OUTSIDE before STATE", Score::rich, x -> x.mark(1, 3), Score.OUTSIDE);
    }

    private static void oneOfBoth() {
        Check.promise(7, "a NOTE is the one that was told last");
        StemBeams x = new StemBeams();
        Score.add(x, 0, 3, 0, 0, 0, 0);
        x.mark(2, 1);
        x.mark(2, 2);
        Check.same("JOINED, no more CUT", x.group(), 1);
        x.mark(2, 1);
        Check.same("CUT, no more JOINED", x.group(), 2);
        x.mark(3, 1);
        x.mark(3, 0);
        Check.same("none of both", x.group(), 2);
    }

    private static void takesBeamsAway() {
        Check.promise(7, "it takes all beams away, if it is not refused");
        StemBeams x = Score.rich();
        x.mark(0, 3);
        x.mark(1, 0);
        x.mark(8, 0);
        Check.same("beams, refused", x.count(1), 3);
        x.mark(0, 0);
        Check.same("beams, though it was so", x.count(1), 0);
        Check.same("the beam of 7", x.stem(7, 4), Score.NONE);
        x.group();
        x.mark(7, 1);
        Check.same("beams", x.count(1), 0);
    }
}
