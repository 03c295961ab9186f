/** Promise 22: count, sentence by sentence. */
public final class Promise22CountTest {
    public static void main(String[] args) {
        bounds();
        nothing();
        events();
        beams();
        openOnes();
        groupsAndTicks();
        ticksOfVoices();
        Check.end();
    }

    private static void counts(String what, StemBeams x, int... due) {
        int[] got = new int[7];
        for (int i = 0; i < got.length; i++) {
            got[i] = x.count(i);
        }
        Check.row(what, got, due);
    }

    private static void bounds() {
        Check.promise(22, "what is 0 to 6: OUTSIDE");
        for (int what : new int[] {-1, 7, 8, Score.LOW, Score.HIGH}) {
            Check.same("count(" + what + ")", Score.rich().count(what), Score.OUTSIDE);
            Check.same("count(" + what + ") of a new object", new StemBeams().count(what), Score.OUTSIDE);
        }
        Score.refused("count(7)", Score::rich, x -> x.count(7), Score.OUTSIDE);
    }

    private static void nothing() {
        Check.promise(22, "of a new object");
        counts("all", new StemBeams(), 0, 0, 0, 4, 256, 0, 0);
    }

    private static void events() {
        Check.promise(22, "0 events");
        StemBeams x = new StemBeams();
        for (int i = 1; i <= 64; i++) {
            x.pause(i % 2, 6, 0);
            Check.same("events", x.count(0), i);
        }
        x.pause(0, 6, 0);
        Check.same("no more than 64", x.count(0), 64);
    }

    private static void beams() {
        Check.promise(22, "1 beams");
        StemBeams x = Score.rich();
        Check.same("after group()", x.count(1), 3);
        x.feather(0, 2);
        Check.same("FEATHERED", x.count(1), 3);
        x.mark(0, 0);
        Check.same("taken away", x.count(1), 0);
        x.group();
        Check.same("made anew", x.count(1), 3);
        x.clear();
        Check.same("after clear()", x.count(1), 0);
    }

    /** Two beams that can't lie BETWEEN, one in each VOICE, and one that can lie. */
    private static StemBeams withOpenOnes() {
        StemBeams x = new StemBeams();
        x.note(-12, 0, 3, 0);
        x.note(12, 0, 3, 0);
        x.note(0, 0, 3, 0);
        x.note(0, 0, 3, 0);
        x.note(-12, 1, 3, 0);
        x.note(12, 1, 3, 0);
        x.staff(1, 1);
        x.staff(5, 1);
        return x;
    }

    private static void openOnes() {
        Check.promise(22, "2 OPEN ones of the latest group()");
        StemBeams x = withOpenOnes();
        Check.same("before group()", x.count(2), 0);
        Check.same("group()", x.group(), 1);
        counts("after it", x, 6, 1, 2, 4, 256, 128, 64);
        x.group();
        Check.same("not added to those before", x.count(2), 2);
        x.over(false);
        Check.same("the latest group() is still that one", x.count(2), 2);
        x.staff(1, 0);
        x.group();
        counts("one of them can lie now", x, 6, 2, 1, 4, 256, 128, 64);
        x.staff(5, 0);
        x.group();
        counts("both can", x, 6, 3, 0, 4, 256, 128, 64);
        x = withOpenOnes();
        x.group();
        x.clear();
        Check.same("after clear()", x.count(2), 0);
    }

    private static void groupsAndTicks() {
        Check.promise(22, "3 GROUPS of the METER, 4 TICKS of a bar");
        StemBeams x = new StemBeams();
        x.meter(16, 2, 0);
        counts("the longest bar", x, 0, 0, 0, 16, 2048, 0, 0);
        x.meter(1, 16, 0);
        counts("the shortest bar", x, 0, 0, 0, 1, 16, 0, 0);
        x.meter(17, 16, 0);
        counts("refused", x, 0, 0, 0, 1, 16, 0, 0);
        x.clear();
        counts("after clear()", x, 0, 0, 0, 4, 256, 0, 0);
    }

    private static void ticksOfVoices() {
        Check.promise(22, "5, 6 TICKS of VOICES 0, 1");
        StemBeams x = new StemBeams();
        x.note(0, 0, 6, 2);
        counts("VOICE 0", x, 1, 0, 0, 4, 256, 7, 0);
        x.pause(1, 5, 1);
        counts("VOICE 1", x, 2, 0, 0, 4, 256, 7, 12);
        x.note(0, 0, 0, 0);
        counts("a refused one has none", x, 2, 0, 0, 4, 256, 7, 12);
        x = new StemBeams();
        x.note(0, 0, 0, 0);
        x.note(0, 0, 0, 0);
        counts("two bars", x, 2, 0, 0, 4, 256, 512, 0);
    }
}
