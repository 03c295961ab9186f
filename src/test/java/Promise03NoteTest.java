/** Promise 3: note, sentence by sentence. */
public final class Promise03NoteTest {
    public static void main(String[] args) {
        numbers();
        placeBounds();
        voiceBounds();
        valueBounds();
        dotsBounds();
        whatANewOneIs();
        ticks();
        beginsWhereTheOneBeforeEnds();
        justFitsItsBar();
        beyondItsBar();
        barsFollow();
        voicesApart();
        room();
        order();
        takesBeamsAway();
        refusedKeepsThem();
        Check.end();
    }

    private static void numbers() {
        Check.promise(3, "numbered 0, 1, .. as they come, of both VOICES and RESTS too");
        StemBeams x = new StemBeams();
        Check.same("the first", x.note(0, 1, 4, 0), 0);
        Check.same("of the other voice", x.note(0, 0, 4, 0), 1);
        Check.same("a REST", x.pause(0, 4, 0), 2);
        Check.same("behind it", x.note(0, 1, 4, 0), 3);
        Check.same("a refused one", x.note(0, 0, 0, 0), Score.STATE);
        Check.same("takes no number", x.note(0, 0, 4, 0), 4);
    }

    private static void outside(int place, int voice, int value, int dots) {
        String told = "note(" + place + ", " + voice + ", " + value + ", " + dots + ")";
        Score.refused(told, Score::rich, x -> x.note(place, voice, value, dots), Score.OUTSIDE);
    }

    private static void placeBounds() {
        Check.promise(3, "PLACE is -12 to 12");
        for (int place : new int[] {-13, 13, Score.LOW, Score.HIGH}) {
            outside(place, 0, 4, 0);
        }
        for (int place = -12; place <= 12; place++) {
            StemBeams x = new StemBeams();
            Check.same("PLACE " + place, x.note(place, 1, 2, 0), 0);
            // VOICE 1 goes down: WANT is 14, or down to the middle line.
            Check.same("its stem's end", x.stem(0, 1), place > 7 ? 0 : 2 * place - 14);
        }
    }

    private static void voiceBounds() {
        Check.promise(3, "VOICES are 0 and 1");
        for (int voice : new int[] {-1, 2, Score.LOW, Score.HIGH}) {
            outside(0, voice, 4, 0);
        }
        StemBeams x = new StemBeams();
        Check.same("VOICE 0", x.event(x.note(0, 0, 4, 0), 2), 0);
        Check.same("VOICE 1", x.event(x.note(0, 1, 4, 0), 2), 1);
    }

    private static void valueBounds() {
        Check.promise(3, "VALUE is 0 to 6");
        for (int value : new int[] {-1, 7, Score.LOW, Score.HIGH, 32, -32}) {
            outside(0, 0, value, 0);
        }
        for (int value = 0; value <= 6; value++) {
            Check.same("VALUE " + value, new StemBeams().note(0, 0, value, 0), 0);
        }
    }

    private static void dotsBounds() {
        Check.promise(3, "DOTS are 0 to 2");
        for (int dots : new int[] {-1, 3, Score.LOW, Score.HIGH}) {
            outside(0, 0, 4, dots);
        }
        for (int dots = 0; dots <= 2; dots++) {
            Check.same("DOTS " + dots, new StemBeams().note(0, 0, 4, dots), 0);
        }
    }

    private static void whatANewOneIs() {
        Check.promise(3, "a NOTE with a HEAD, on STAFF 0 at first");
        StemBeams x = new StemBeams();
        x.note(3, 0, 3, 0);
        Check.same("HEADS", x.event(0, 3), 1);
        Check.same("no REST", x.rest(0), Score.STATE);
        Check.same("neither CUT nor JOINED", x.mark(0, 0), 0);
        for (int l = 2; l <= 4; l++) {
            Check.same("not BROKEN at " + l, x.broken(0, l, false), 0);
        }
        Check.same("STAFF", x.staff(0, 0), 0);
        Check.same("its HEAD is at its PLACE", x.also(0, 3), Score.STATE);
    }

    private static void ticks() {
        Check.promise(3, "L = 256 / 2^v TICKS, with one dot L / 2, with two 3 L / 4 more");
        int[][] due = {{256, 384, 448}, {128, 192, 224}, {64, 96, 112}, {32, 48, 56}, {16, 24, 28}, {8, 12, 14}, {4, 6, 7}};
        for (int value = 0; value <= 6; value++) {
            for (int dots = 0; dots <= 2; dots++) {
                StemBeams x = new StemBeams();
                x.meter(16, 2, 0);
                x.note(0, 0, value, dots);
                Check.same("VALUE " + value + ", DOTS " + dots, x.event(0, 1), due[value][dots]);
                Check.same("of its VOICE", x.count(5), due[value][dots]);
                Check.same("of the other VOICE", x.count(6), 0);
            }
        }
    }

    private static void beginsWhereTheOneBeforeEnds() {
        Check.promise(3, "begins where the one before of its voice ends (at 0)");
        StemBeams x = new StemBeams();
        x.note(0, 0, 6, 2);
        x.note(0, 1, 3, 1);
        x.note(0, 0, 4, 0);
        x.note(0, 1, 6, 0);
        x.pause(0, 2, 0);
        x.note(0, 0, 6, 0);
        Check.row("begins", new int[] {x.event(0, 0), x.event(1, 0), x.event(2, 0), x.event(3, 0), x.event(4, 0), x.event(5, 0)},
            0, 0, 7, 48, 23, 87);
    }

    /** A bar of 64 TICKS of which 32 + 12 + 6 or 7 are taken. */
    private static StemBeams almostFull(int dots) {
        StemBeams x = new StemBeams();
        x.meter(1, 4, 0);
        x.note(0, 0, 3, 0);
        x.note(0, 0, 5, 1);
        x.note(0, 0, 6, dots);
        x.group();
        return x;
    }

    private static void justFitsItsBar() {
        Check.promise(3, "an event may go up to the end of its bar");
        StemBeams x = almostFull(1);
        Check.same("14 TICKS at 50 of 64", x.note(0, 0, 5, 2), 3);
        Check.same("the next one is in the next bar", x.event(x.note(0, 0, 6, 0), 4), 1);
        x = new StemBeams();
        x.meter(16, 2, 0);
        for (int i = 0; i < 8; i++) {
            Check.same("a whole note", x.note(0, 0, 0, 0), i);
        }
        Check.same("the longest bar is full", x.event(x.note(0, 0, 0, 0), 4), 1);
    }

    private static void beyondItsBar() {
        Check.promise(3, "STATE: it would go beyond its bar");
        Score.refused("14 TICKS at 51 of 64", () -> almostFull(2), x -> x.note(0, 0, 5, 2), Score.STATE);
        Score.refused("a whole note there", () -> almostFull(2), x -> x.note(0, 0, 0, 2), Score.STATE);
        StemBeams x = almostFull(2);
        Check.same("12 TICKS fit", x.note(0, 0, 5, 1), 3);
        Check.same("then 4 are too many", x.note(0, 0, 6, 0), Score.STATE);
        Check.same("VOICE 1 has room", x.note(0, 1, 2, 0), 4);
        Check.same("but not for more than a bar", new StemBeams().note(0, 0, 0, 1), Score.STATE);
    }

    private static void barsFollow() {
        Check.promise(3, "bars follow one another from 0");
        StemBeams x = new StemBeams();
        x.meter(3, 16, 0);
        for (int bar = 0; bar < 21; bar++) {
            Check.same("a sixteenth", x.note(0, 0, 4, 0), 3 * bar);
            Check.same("an eighth and a dot", x.note(0, 0, 3, 1), Score.STATE);
            Check.same("32 of 32", x.pause(0, 3, 0), 3 * bar + 1);
            Check.same("VOICE 1", x.pause(1, 3, 1), 3 * bar + 2);
            Check.same("its bar", x.event(3 * bar + 1, 4), bar);
        }
    }

    private static void voicesApart() {
        Check.promise(3, "each VOICE has its own way through the bars");
        StemBeams x = new StemBeams();
        x.note(0, 0, 6, 0);
        Check.same("VOICE 0 has no room", x.note(0, 0, 0, 0), Score.STATE);
        Check.same("VOICE 1 has", x.note(0, 1, 0, 0), 1);
        Check.same("and once more", x.note(0, 1, 0, 0), 2);
        Check.same("its bar", x.event(2, 4), 1);
    }

    private static void room() {
        Check.promise(3, "64 at most: ROOM");
        StemBeams x = new StemBeams();
        for (int i = 0; i < 63; i++) {
            x.note(0, 0, 6, 0);
        }
        Check.same("the 64th", x.note(0, 0, 6, 0), 63);
        Check.same("the 65th", x.note(0, 0, 6, 0), Score.ROOM);
        Check.same("of the other VOICE", x.note(0, 1, 6, 0), Score.ROOM);
        Check.same("events", x.count(0), 64);
        Check.same("event 64", x.event(64, 0), Score.UNKNOWN);
        Score.refused("one of VOICE 0", Score::full, y -> y.note(0, 0, 6, 0), Score.ROOM);
        Score.refused("one of VOICE 1", Score::full, y -> y.note(0, 1, 6, 0), Score.ROOM);
    }

    private static void order() {
        Check.promise(3, "OUTSIDE, then STATE, then ROOM");
        Score.refused("OUTSIDE before STATE", Score::rich, x -> x.note(13, 0, 0, 2), Score.OUTSIDE);
        Score.refused("OUTSIDE before ROOM", Score::full, x -> x.note(0, 0, 6, 3), Score.OUTSIDE);
        // 252 of 256 TICKS are taken.
        Score.refused("STATE before ROOM", Score::full, x -> x.note(0, 0, 6, 1), Score.STATE);
    }

    private static void takesBeamsAway() {
        Check.promise(3, "each event that comes takes all beams away");
        for (int voice = 0; voice <= 1; voice++) {
            StemBeams x = Score.rich();
            Check.same("beams before", x.count(1), 3);
            x.note(0, voice, 4, 0);
            Check.same("beams", x.count(1), 0);
            Check.same("beam 0", x.beam(0, 0), Score.UNKNOWN);
            for (int note : new int[] {0, 2, 3, 4, 5, 6, 7}) {
                Check.same("the beam of " + note, x.stem(note, 4), Score.NONE);
                Check.same("LEVEL 1 of " + note, x.level(note, 1), 0);
            }
        }
    }

    private static void refusedKeepsThem() {
        Check.promise(3, "if it is not refused");
        StemBeams x = Score.rich();
        x.note(0, 0, 7, 0);
        x.note(0, 0, 0, 2);
        Check.same("beams", x.count(1), 3);
        Check.same("the beam of 7", x.stem(7, 4), 2);
        x = Score.full();
        int beams = x.count(1);
        x.note(0, 0, 6, 0);
        Check.same("beams, with ROOM", x.count(1), beams);
    }
}
