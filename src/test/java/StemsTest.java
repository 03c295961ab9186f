/** Promise 15: stems of notes alone and in beams. */
public final class StemsTest {
    public static void main(String[] args) {
        alone();
        twoVoices();
        onStaffOne();
        flags();
        inBeams();
        whole();
        Check.end();
    }

    private static int[] stem(StemBeams x, int note) {
        int[] got = new int[5];
        for (int what = 0; what < got.length; what++) {
            got[what] = x.stem(note, what);
        }
        return got;
    }

    private static final int NO = StemBeams.NONE;

    private static int[] single(int place, int value) {
        StemBeams x = new StemBeams();
        x.note(place, 0, value, 0);
        return stem(x, 0);
    }

    private static void alone() {
        Check.promise(15, "a note alone");
        Check.row("on the middle line", single(0, 2), -1, -14, 14, 0, NO);
        Check.row("above", single(1, 1), -1, -12, 14, 0, NO);
        Check.row("below", single(-1, 2), 1, 12, 14, 0, NO);
        Check.row("far below, not to the middle line yet", single(-7, 2), 1, 0, 14, 0, NO);
        Check.row("to the middle line", single(-8, 2), 1, 0, 16, 0, NO);
        Check.row("lowest", single(-12, 2), 1, 0, 24, 0, NO);
        Check.row("to the middle line, down", single(8, 2), -1, 0, 16, 0, NO);
        Check.row("highest", single(12, 2), -1, 0, 24, 0, NO);
        StemBeams x = new StemBeams();
        x.note(-5, 0, 2, 0);
        x.also(0, 5);
        Check.row("a sum of 0", stem(x, 0), -1, -24, 14, 0, NO);
        x.also(0, -6);
        Check.row("a sum below 0", stem(x, 0), 1, 24, 14, 0, NO);
    }

    private static void twoVoices() {
        Check.promise(15, "when VOICE 1 has events");
        StemBeams x = new StemBeams();
        x.note(6, 0, 2, 0);
        x.note(-12, 0, 2, 0);
        Check.row("VOICE 0 alone", stem(x, 0), -1, -2, 14, 0, NO);
        x.pause(1, 6, 0);
        Check.row("with a REST of VOICE 1", stem(x, 0), 1, 26, 14, 0, NO);
        Check.row("to the middle line still", stem(x, 1), 1, 0, 24, 0, NO);
        x.note(-6, 1, 2, 0);
        Check.row("VOICE 1", stem(x, 3), -1, -26, 14, 0, NO);
        x = new StemBeams();
        x.note(-6, 1, 2, 0);
        Check.row("VOICE 1 alone", stem(x, 0), -1, -26, 14, 0, NO);
    }

    private static void onStaffOne() {
        Check.promise(15, "over the middle line of its STAFF");
        StemBeams x = new StemBeams();
        x.note(2, 0, 2, 0);
        x.staff(0, 1);
        Check.row("above its own middle line", stem(x, 0), -1, -58, 14, 0, NO);
        x = new StemBeams();
        x.note(-9, 0, 2, 0);
        x.staff(0, 1);
        Check.row("to its own middle line", stem(x, 0), 1, -48, 18, 0, NO);
    }

    private static void flags() {
        Check.promise(15, "FLAGS, as many as LEVELS");
        Check.row("VALUE 3", single(-1, 3), 1, 12, 14, 1, NO);
        Check.row("VALUE 4", single(-1, 4), 1, 12, 14, 2, NO);
        Check.row("VALUE 5", single(-1, 5), 1, 15, 17, 3, NO);
        Check.row("VALUE 6", single(-1, 6), 1, 18, 20, 4, NO);
        Check.row("VALUE 6, to the middle line in any case", single(-10, 6), 1, 0, 20, 4, NO);
        Check.row("VALUE 6, farther", single(-11, 6), 1, 0, 22, 4, NO);
        Check.row("VALUE 5, down", single(9, 5), -1, 0, 18, 3, NO);
    }

    private static void inBeams() {
        Check.promise(15, "by the beams that are now");
        StemBeams x = new StemBeams();
        x.note(0, 0, 3, 0);
        x.note(2, 0, 3, 0);
        x.note(4, 0, 3, 0);
        Check.row("before group()", stem(x, 0), -1, -14, 14, 1, NO);
        x.group();
        Check.row("the first one", stem(x, 0), -1, -13, 13, 0, 0);
        Check.row("the second one", stem(x, 1), -1, -11, 15, 0, 0);
        Check.row("one alone", stem(x, 2), -1, -6, 14, 1, NO);
        x.over(false);
        Check.row("the beams are away", stem(x, 0), -1, -14, 14, 1, NO);
        x.group();
        Check.row("and back", stem(x, 0), -1, -13, 13, 0, 0);
    }

    private static void whole() {
        Check.promise(15, "VALUE 0 has none");
        StemBeams x = new StemBeams();
        x.note(0, 0, 0, 0);
        x.pause(0, 0, 0);
        Check.row("VALUE 0", stem(x, 0), NO, NO, NO, NO, NO);
        int s = StemBeams.STATE;
        Check.row("a REST", stem(x, 1), s, s, s, s, s);
    }
}
