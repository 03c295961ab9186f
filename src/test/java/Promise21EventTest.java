/** Promise 21: event, sentence by sentence. */
public final class Promise21EventTest {
    public static void main(String[] args) {
        unknown();
        bounds();
        order();
        heads();
        bars();
        groupsByTicks();
        longestRun();
        Check.end();
    }

    private static void unknown() {
        Check.promise(21, "UNKNOWN: no such event");
        for (int event : Score.NO_NUMBERS) {
            for (int what = 0; what <= 5; what++) {
                Check.same("event(" + event + ", " + what + ")", Score.rich().event(event, what), Score.UNKNOWN);
            }
        }
        Check.same("the one behind the last", Score.rich().event(8, 0), Score.UNKNOWN);
        Check.same("the last", Score.rich().event(7, 2), 1);
        Check.same("the 64th", Score.full().event(63, 2), 1);
        Check.same("of no events", new StemBeams().event(0, 0), Score.UNKNOWN);
        StemBeams x = Score.rich();
        x.clear();
        Check.same("after clear()", x.event(0, 0), Score.UNKNOWN);
    }

    private static void bounds() {
        Check.promise(21, "what is 0 to 5: OUTSIDE");
        for (int what : new int[] {-1, 6, 7, Score.LOW, Score.HIGH}) {
            Check.same("event(0, " + what + ")", Score.rich().event(0, what), Score.OUTSIDE);
            Check.same("event(1, " + what + ") of a REST", Score.rich().event(1, what), Score.OUTSIDE);
        }
        for (int what = 0; what <= 5; what++) {
            Check.isTrue("event(0, " + what + ")", Score.rich().event(0, what) >= 0);
            Check.isTrue("event(1, " + what + ") of a REST", Score.rich().event(1, what) >= 0);
        }
    }

    private static void order() {
        Check.promise(21, "UNKNOWN, then OUTSIDE");
        Check.same("event(8, 6)", Score.rich().event(8, 6), Score.UNKNOWN);
        Check.same("event(-1, -1)", Score.rich().event(-1, -1), Score.UNKNOWN);
    }

    private static void heads() {
        Check.promise(21, "HEADS (3; 0 a REST)");
        StemBeams x = new StemBeams();
        x.note(0, 0, 2, 0);
        x.pause(0, 2, 0);
        Check.same("a REST", x.event(1, 3), 0);
        for (int heads = 1; heads <= 4; heads++) {
            Check.same("a NOTE", x.event(0, 3), heads);
            x.also(0, heads);
        }
        x.also(0, 5);
        Check.same("no more than 4", x.event(0, 3), 4);
    }

    private static void bars() {
        Check.promise(21, "the bar (4), the TICK where it begins (0)");
        StemBeams x = new StemBeams();
        x.meter(1, 16, 0);
        for (int i = 0; i < 64; i++) {
            x.note(0, 0, 5, 0);
        }
        for (int i = 0; i < 64; i++) {
            Check.same("TICK of " + i, x.event(i, 0), 8 * i);
            Check.same("bar of " + i, x.event(i, 4), i / 2);
            Check.same("GROUP of " + i, x.event(i, 5), 0);
        }
    }

    /** The GROUP of an event that begins behind these VALUES and DOTS. */
    private static int groupBehind(int up, int down, int groups, int... valuesAndDots) {
        StemBeams x = new StemBeams();
        x.meter(up, down, groups);
        for (int i = 0; i < valuesAndDots.length; i += 2) {
            x.pause(0, valuesAndDots[i], valuesAndDots[i + 1]);
        }
        return x.event(x.pause(0, 6, 0), 5);
    }

    private static void groupsByTicks() {
        Check.promise(21, "the GROUP of the bar in which it begins (5)");
        // 7 by 8 in 3, 2, 2: GROUPS end at 96, 160, 224.
        Check.same("at 0", groupBehind(7, 8, 322), 0);
        Check.same("at 95", groupBehind(7, 8, 322, 3, 1, 4, 2, 5, 1, 6, 2), 0);
        Check.same("at 96", groupBehind(7, 8, 322, 2, 1), 1);
        Check.same("at 103", groupBehind(7, 8, 322, 2, 1, 6, 2), 1);
        Check.same("at 159", groupBehind(7, 8, 322, 2, 1, 3, 2, 6, 2), 1);
        Check.same("at 160", groupBehind(7, 8, 322, 2, 1, 2, 0), 2);
        Check.same("at 220", groupBehind(7, 8, 322, 2, 1, 2, 0, 3, 2, 6, 0), 2);
        Check.same("at 224, the next bar", groupBehind(7, 8, 322, 1, 2), 0);
        Check.same("at 224 + 96", groupBehind(7, 8, 322, 1, 2, 2, 1), 1);
        // 4 by 4: 63 and 64, 252 and 256.
        Check.same("at 63", groupBehind(4, 4, 0, 3, 2, 6, 2), 0);
        Check.same("at 64", groupBehind(4, 4, 0, 2, 0), 1);
        Check.same("at 252", groupBehind(4, 4, 0, 1, 2, 4, 2), 3);
        Check.same("at 256", groupBehind(4, 4, 0, 0, 0), 0);
    }

    private static void longestRun() {
        Check.promise(21, "64 events, each as long as the longest bar lets it be");
        StemBeams x = new StemBeams();
        x.meter(16, 2, 0);
        int begin = 0;
        for (int i = 0; i < 64; i++) {
            // Four of 448 TICKS and one of 256 fill 2048.
            int dots = i % 5 == 4 ? 0 : 2;
            Check.same("note " + i, x.note(0, 0, 0, dots), i);
            Check.same("TICK of " + i, x.event(i, 0), begin);
            Check.same("bar of " + i, x.event(i, 4), i / 5);
            Check.same("GROUP of " + i, x.event(i, 5), begin % 2048 / 128);
            begin += dots == 0 ? 256 : 448;
        }
        Check.same("TICKS of VOICE 0", x.count(5), begin);
    }
}
