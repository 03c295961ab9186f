/** Promise 4: pause, sentence by sentence. */
public final class Promise04PauseTest {
    public static void main(String[] args) {
        numbers();
        noHeads();
        voiceBounds();
        valueBounds();
        dotsBounds();
        ticks();
        justFitsItsBar();
        beyondItsBar();
        room();
        order();
        takesBeamsAway();
        Check.end();
    }

    private static void numbers() {
        Check.promise(4, "its number");
        StemBeams x = new StemBeams();
        Check.same("the first", x.pause(0, 4, 0), 0);
        Check.same("of the other voice", x.pause(1, 4, 0), 1);
        Check.same("a refused one", x.pause(1, 0, 0), Score.STATE);
        Check.same("behind it", x.pause(0, 4, 0), 2);
    }

    private static void noHeads() {
        Check.promise(4, "a REST has no HEADS");
        StemBeams x = new StemBeams();
        x.pause(0, 4, 0);
        Check.same("HEADS", x.event(0, 3), 0);
        Check.same("also", x.also(0, 0), Score.STATE);
        Check.same("stem", x.stem(0, 0), Score.STATE);
        Check.same("still none", x.event(0, 3), 0);
    }

    private static void outside(int voice, int value, int dots) {
        String told = "pause(" + voice + ", " + value + ", " + dots + ")";
        Score.refused(told, Score::rich, x -> x.pause(voice, value, dots), Score.OUTSIDE);
    }

    private static void voiceBounds() {
        Check.promise(4, "VOICES are 0 and 1");
        for (int voice : new int[] {-1, 2, Score.LOW, Score.HIGH}) {
            outside(voice, 4, 0);
        }
        StemBeams x = new StemBeams();
        Check.same("VOICE 0", x.event(x.pause(0, 4, 0), 2), 0);
        Check.same("VOICE 1", x.event(x.pause(1, 4, 0), 2), 1);
    }

    private static void valueBounds() {
        Check.promise(4, "VALUE is 0 to 6");
        for (int value : new int[] {-1, 7, Score.LOW, Score.HIGH, 32, -32}) {
            outside(0, value, 0);
        }
        for (int value = 0; value <= 6; value++) {
            Check.same("VALUE " + value, new StemBeams().pause(0, value, 0), 0);
        }
    }

    private static void dotsBounds() {
        Check.promise(4, "DOTS are 0 to 2");
        for (int dots : new int[] {-1, 3, Score.LOW, Score.HIGH}) {
            outside(0, 4, dots);
        }
        for (int dots = 0; dots <= 2; dots++) {
            Check.same("DOTS " + dots, new StemBeams().pause(0, 4, dots), 0);
        }
    }

    private static void ticks() {
        Check.promise(4, "the TICKS of its VALUE and DOTS");
        int[][] due = {{256, 384, 448}, {128, 192, 224}, {64, 96, 112}, {32, 48, 56}, {16, 24, 28}, {8, 12, 14}, {4, 6, 7}};
        for (int value = 0; value <= 6; value++) {
            for (int dots = 0; dots <= 2; dots++) {
                StemBeams x = new StemBeams();
                x.meter(16, 2, 0);
                x.pause(1, value, dots);
                Check.same("VALUE " + value + ", DOTS " + dots, x.event(0, 1), due[value][dots]);
                Check.same("of its VOICE", x.count(6), due[value][dots]);
                Check.same("the next one begins", x.event(x.pause(1, 6, 0), 0), due[value][dots]);
            }
        }
    }

    /** A bar of 64 TICKS of which 32 + 12 + 6 or 7 are taken. */
    private static StemBeams almostFull(int dots) {
        StemBeams x = new StemBeams();
        x.meter(1, 4, 0);
        x.note(0, 0, 3, 0);
        x.note(0, 0, 5, 1);
        x.pause(0, 6, dots);
        x.group();
        return x;
    }

    private static void justFitsItsBar() {
        Check.promise(4, "an event may go up to the end of its bar");
        StemBeams x = almostFull(1);
        Check.same("14 TICKS at 50 of 64", x.pause(0, 5, 2), 3);
        Check.same("the next one is in the next bar", x.event(x.pause(0, 2, 0), 4), 1);
    }

    private static void beyondItsBar() {
        Check.promise(4, "STATE: it would go beyond its bar");
        Score.refused("14 TICKS at 51 of 64", () -> almostFull(2), x -> x.pause(0, 5, 2), Score.STATE);
        Check.same("12 TICKS fit", almostFull(2).pause(0, 5, 1), 3);
        Check.same("VOICE 1 has room", almostFull(2).pause(1, 2, 0), 3);
    }

    private static void room() {
        Check.promise(4, "64 at most: ROOM");
        StemBeams x = new StemBeams();
        for (int i = 0; i < 63; i++) {
            x.pause(i % 2, 6, 0);
        }
        Check.same("the 64th", x.pause(1, 6, 0), 63);
        Check.same("the 65th", x.pause(1, 6, 0), Score.ROOM);
        Check.same("a NOTE", x.note(0, 0, 6, 0), Score.ROOM);
        Check.same("events", x.count(0), 64);
        Score.refused("one of VOICE 0", Score::full, y -> y.pause(0, 6, 0), Score.ROOM);
        Score.refused("one of VOICE 1", Score::full, y -> y.pause(1, 6, 0), Score.ROOM);
    }

    private static void order() {
        Check.promise(4, "OUTSIDE, then STATE, then ROOM");
        Score.refused("OUTSIDE before STATE", Score::rich, x -> x.pause(0, 0, 3), Score.OUTSIDE);
        Score.refused("OUTSIDE before ROOM", Score::full, x -> x.pause(2, 6, 0), Score.OUTSIDE);
        Score.refused("STATE before ROOM", Score::full, x -> x.pause(0, 6, 1), Score.STATE);
    }

    private static void takesBeamsAway() {
        Check.promise(4, "it takes all beams away, if it is not refused");
        for (int voice = 0; voice <= 1; voice++) {
            StemBeams x = Score.rich();
            x.pause(voice, 0, 2);
            x.pause(voice, 7, 0);
            Check.same("beams, refused", x.count(1), 3);
            x.pause(voice, 4, 0);
            Check.same("beams", x.count(1), 0);
            Check.same("the beam of 0", x.stem(0, 4), Score.NONE);
            Check.same("the beam of 7", x.stem(7, 4), Score.NONE);
            Check.same("beams made anew", x.group(), 3);
        }
    }
}
