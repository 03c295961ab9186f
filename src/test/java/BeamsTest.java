/** Promises 10, 12 and 16: which notes have a beam, and its levels. */
public final class BeamsTest {
    public static void main(String[] args) {
        byGroups();
        byValues();
        byMarks();
        overRests();
        acrossBars();
        sixteenAtMost();
        voices();
        manyBeams();
        open();
        levels();
        brokenLevels();
        stubs();
        Check.end();
    }

    private static StemBeams notes(int... values) {
        StemBeams x = new StemBeams();
        add(x, values);
        return x;
    }

    private static void add(StemBeams x, int... values) {
        for (int v : values) {
            if (v < 0) {
                x.pause(0, -v, 0);
            } else {
                x.note(0, 0, v, 0);
            }
        }
    }

    private static StemBeams notesGrouped(int... values) {
        StemBeams x = notes(values);
        x.group();
        return x;
    }

    private static int[] beams(StemBeams x) {
        x.group();
        int[] got = new int[x.count(0)];
        for (int i = 0; i < got.length; i++) {
            got[i] = x.stem(i, 4);
        }
        return got;
    }

    private static int[] levels(StemBeams x, int l) {
        int[] got = new int[x.count(0)];
        for (int i = 0; i < got.length; i++) {
            got[i] = x.level(i, l);
        }
        return got;
    }

    private static final int NO = StemBeams.NONE, REST = StemBeams.STATE;

    private static void byGroups() {
        Check.promise(10, "both begin in one GROUP");
        Check.row("eighths of 4 by 4", beams(notes(3, 3, 3, 3, 3, 3)), 0, 0, 1, 1, 2, 2);
        Check.row("one off the beat", beams(notes(4, 3, 3, 4)), 0, 0, 0, NO);
        StemBeams x = new StemBeams();
        x.meter(7, 8, 322);
        add(x, 3, 3, 3, 3, 3, 3, 3);
        Check.row("eighths of 7 by 8", beams(x), 0, 0, 0, 1, 1, 2, 2);
        Check.same("member(0, 0)", x.member(0, 0), 0);
        Check.same("member(0, 2)", x.member(0, 2), 2);
        Check.same("member(2, 1)", x.member(2, 1), 6);
        Check.same("member(0, 3)", x.member(0, 3), NO);
        Check.same("member(0, -1)", x.member(0, -1), NO);
        Check.same("member of the greatest int", x.member(0, Integer.MAX_VALUE), NO);
        Check.same("member(3, 0)", x.member(3, 0), StemBeams.UNKNOWN);
        Check.same("member(-1, 0)", x.member(-1, 0), StemBeams.UNKNOWN);
        Check.same("a beam's notes", x.beam(0, 0), 3);
        Check.same("another's", x.beam(1, 0), 2);
    }

    private static void byValues() {
        Check.promise(10, "NOTES of VALUES 3 to 6");
        StemBeams x = new StemBeams();
        x.meter(4, 4, 4);
        add(x, 3, 3, 2, 3, 4, 4);
        Check.row("a quarter parts them", beams(x), 0, 0, NO, 1, 1, 1);
        Check.row("quarters have none", beams(notes(2, 2, 1)), NO, NO, NO);
        Check.row("VALUES 3 to 6", beams(notes(4, 5, 6, 6, 3)), 0, 0, 0, 0, 0);
        x = notes(3, 3, 2);
        x.mark(2, 2);
        Check.row("JOINED does not make a quarter short", beams(x), 0, 0, NO);
    }

    private static void byMarks() {
        Check.promise(10, "CUT and JOINED");
        StemBeams x = notes(4, 4, 4, 4, 3, 3);
        x.mark(2, 1);
        Check.row("CUT within a group", beams(x), 0, 0, 1, 1, 2, 2);
        x.mark(2, 0);
        x.mark(4, 2);
        Check.row("JOINED over the groups", beams(x), 0, 0, 0, 0, 0, 0);
        x.mark(0, 1);
        Check.row("the first one CUT changes nothing", beams(x), 0, 0, 0, 0, 0, 0);
        x.mark(1, 1);
        Check.row("one alone", beams(x), NO, 0, 0, 0, 0, 0);
        x = notes(3, 2, 3);
        x.mark(2, 2);
        Check.row("JOINED behind a quarter", beams(x), NO, NO, NO);
    }

    private static void overRests() {
        Check.promise(10, "beams go over RESTS");
        StemBeams x = notes(4, -4, 4, 4);
        Check.row("a rest parts them", beams(x), NO, REST, 0, 0);
        x.over(true);
        Check.row("it lies within", beams(x), 0, REST, 0, 0);
        x.mark(2, 1);
        Check.row("CUT behind a rest", beams(x), NO, REST, 0, 0);
        x = notes(4, -5, -5, 4, 4);
        x.over(true);
        Check.row("two rests", beams(x), 0, REST, REST, 0, 0);
        x = new StemBeams();
        x.meter(4, 4, 4);
        x.over(true);
        add(x, 3, -2, 3, -3, 3);
        Check.row("a quarter rest parts them", beams(x), NO, REST, 0, REST, 0);
        x.mark(2, 2);
        Check.row("even JOINED", beams(x), NO, REST, 0, REST, 0);
        x = new StemBeams();
        x.meter(4, 4, 4);
        x.over(true);
        add(x, 3, -3, -2, 3, 3);
        Check.row("a quarter rest behind a short one", beams(x), NO, REST, REST, 0, 0);
        x = new StemBeams();
        x.meter(4, 4, 4);
        x.over(true);
        add(x, 3, -2, -3, 3, 3);
        Check.row("a quarter rest before a short one", beams(x), NO, REST, REST, 0, 0);
        x = notes(3, -3, 3, 3);
        x.over(true);
        Check.row("the groups part them still", beams(x), NO, REST, 0, 0);
        x.mark(2, 2);
        Check.row("JOINED over a rest", beams(x), 0, REST, 0, 0);
        x.over(false);
        Check.row("JOINED, but not over rests", beams(x), NO, REST, 0, 0);
        x = notes(-3, 3, 3, -3);
        x.over(true);
        Check.row("rests at the ends", beams(x), REST, NO, NO, REST);
        x = notes(-4, 4, 4, -4);
        x.over(true);
        Check.row("rests round a beam", beams(x), REST, 0, 0, REST);
    }

    private static void acrossBars() {
        Check.promise(10, "one GROUP of one bar");
        StemBeams x = new StemBeams();
        x.meter(1, 4, 0);
        add(x, 3, 3, 3, 3);
        Check.row("one group, two bars", beams(x), 0, 0, 1, 1);
        x.mark(2, 2);
        Check.row("JOINED over the bar", beams(x), 0, 0, 0, 0);
    }

    private static void sixteenAtMost() {
        Check.promise(10, "16 at most");
        StemBeams x = new StemBeams();
        x.meter(2, 4, 2);
        for (int i = 0; i < 19; i++) {
            x.note(0, 0, 6, 0);
        }
        Check.same("two beams", x.group(), 2);
        Check.same("of 16", x.beam(0, 0), 16);
        Check.same("of 3", x.beam(1, 0), 3);
        Check.same("the 16th", x.member(0, 15), 15);
        Check.same("no 17th", x.member(0, 16), NO);
        Check.same("the 17th begins anew", x.member(1, 0), 16);
        x.mark(16, 2);
        x.group();
        Check.same("even JOINED", x.beam(0, 0), 16);
        x = new StemBeams();
        x.meter(2, 4, 2);
        for (int i = 0; i < 17; i++) {
            x.note(0, 0, 6, 0);
        }
        Check.same("the 17th alone", x.group(), 1);
        Check.same("has no beam", x.stem(16, 4), NO);
        Check.same("but flags", x.stem(16, 3), 4);
    }

    private static void voices() {
        Check.promise(10, "voice by voice");
        StemBeams x = new StemBeams();
        x.note(0, 1, 3, 0);
        x.note(0, 0, 3, 0);
        x.note(0, 1, 3, 0);
        x.note(0, 0, 3, 0);
        x.note(0, 0, 3, 0);
        x.note(0, 0, 3, 0);
        Check.row("voice by voice", beams(x), 2, 0, 2, 0, 1, 1);
        Check.same("VOICE 1's notes", x.member(2, 1), 2);
        x = new StemBeams();
        x.note(0, 0, 4, 0);
        x.pause(1, 2, 0);
        x.note(0, 1, 2, 0);
        x.note(0, 0, 4, 0);
        Check.row("events of the other voice part nothing", beams(x), 0, REST, NO, 0);
        x = new StemBeams();
        x.note(0, 0, 3, 0);
        x.note(0, 1, 3, 0);
        Check.row("no beam takes both voices", beams(x), NO, NO);
    }

    private static void manyBeams() {
        Check.promise(10, "many beams");
        StemBeams x = new StemBeams();
        for (int i = 0; i < 64; i++) {
            x.note(0, 0, 6, 0);
            if (i % 2 == 0) {
                x.mark(i, 1);
            }
        }
        Check.same("32 beams", x.group(), 32);
        Check.same("the last one's", x.member(31, 1), 63);
        Check.same("no 33rd", x.member(32, 0), StemBeams.UNKNOWN);
        Check.same("again", x.group(), 32);
    }

    private static void open() {
        Check.promise(10, "OPEN ones are none");
        StemBeams x = notes(3, 3, 3, 3);
        x.also(0, -12);
        x.also(1, 12);
        x.staff(1, 1);
        Check.row("an OPEN one is none", beams(x), NO, NO, 0, 0);
        Check.same("one is OPEN", x.count(2), 1);
        Check.same("one beam", x.count(1), 1);
        Check.same("a note of an OPEN beam has flags", x.stem(0, 3), 1);
        Check.same("and goes as alone: 0 and -12, up", x.stem(0, 0), 1);
        Check.same("12 and 0 on STAFF 1, down", x.stem(1, 0), -1);
        Check.same("no LEVEL", x.level(0, 1), 0);
        x.staff(1, 0);
        x.group();
        Check.same("none is OPEN now", x.count(2), 0);
    }

    private static void levels() {
        Check.promise(16, "who hangs together");
        StemBeams x = notes(4, 4, 3, 5, 5, 4, 3);
        x.group();
        Check.row("LEVEL 1", levels(x, 1), 2, 3, 1, 2, 3, 3, 1);
        Check.row("LEVEL 2", levels(x, 2), 2, 1, 0, 2, 3, 1, 0);
        Check.row("LEVEL 3", levels(x, 3), 0, 0, 0, 2, 1, 0, 0);
        Check.row("LEVEL 4", levels(x, 4), 0, 0, 0, 0, 0, 0, 0);
        Check.same("greatest of beam 0", x.beam(0, 1), 2);
        Check.same("greatest of the first note", notesGrouped(6, 3).beam(0, 1), 4);
        Check.same("greatest of beam 1", x.beam(1, 1), 3);
        x = notes(3, -3, 2, 1);
        x.group();
        Check.row("no beam", levels(x, 1), 0, REST, 0, 0);
        x = notes(4, -4, 4, 4);
        x.over(true);
        x.group();
        Check.row("over a rest", levels(x, 2), 2, REST, 3, 1);
    }

    private static void brokenLevels() {
        Check.promise(16, "BROKEN");
        StemBeams x = notes(4, 4, 4, 4);
        x.broken(2, 2, true);
        x.group();
        Check.row("BROKEN at 2", levels(x, 2), 2, 1, 2, 1);
        Check.row("not at 1", levels(x, 1), 2, 3, 3, 1);
        x.broken(1, 2, true);
        x.group();
        Check.row("both sides BROKEN, off the beat", levels(x, 2), 8, 4, 2, 1);
        x.broken(3, 2, true);
        x.group();
        Check.row("all BROKEN", levels(x, 2), 8, 4, 8, 4);
        x = notes(5, 5, 5, 5, 3);
        x.broken(2, 2, true);
        x.group();
        Check.row("BROKEN at 2", levels(x, 2), 2, 1, 2, 1, 0);
        Check.row("not at 3", levels(x, 3), 2, 3, 3, 1, 0);
        x.broken(2, 2, false);
        x.broken(2, 3, true);
        x.group();
        Check.row("BROKEN at 3", levels(x, 3), 2, 1, 2, 1, 0);
        Check.row("not at 2", levels(x, 2), 2, 3, 3, 1, 0);
    }

    private static void stubs() {
        Check.promise(16, "STUBS");
        StemBeams x = new StemBeams();
        x.note(0, 0, 3, 1);
        x.note(0, 0, 4, 0);
        x.note(0, 0, 4, 0);
        x.note(0, 0, 3, 1);
        x.group();
        Check.row("stubs at the ends", levels(x, 2), 0, 4, 8, 0);
        x = notes(3, 4, -4);
        x.group();
        Check.same("the last one's to the left, though 32 is a multiple of 32", x.level(1, 2), 4);
        x = new StemBeams();
        x.meter(5, 16, 5);
        add(x, 3, 4, 3, 3, 4, 3, 4, 3, 3);
        x.group();
        Check.row("stubs within, by the bar", levels(x, 2), 0, 8, 0, 0, 8, 0, 8, 0, 0);
        x = new StemBeams();
        x.meter(2, 4, 2);
        add(x, 3, 4, 3, 4, 3);
        x.group();
        Check.row("stubs within", levels(x, 2), 0, 8, 0, 4, 0);
        x = new StemBeams();
        x.meter(2, 4, 2);
        add(x, 4, 6, 4, 6, 4);
        x.group();
        // VALUE 6 is 4 TICKS: at 16 a multiple of 8, at 36 none.
        Check.row("stubs of LEVEL 3 by the note's own VALUE", levels(x, 3), 0, 8, 0, 4, 0);
        Check.row("and of LEVEL 4", levels(x, 4), 0, 8, 0, 4, 0);
        Check.row("none of LEVEL 2", levels(x, 2), 2, 3, 3, 3, 1);
        x = new StemBeams();
        x.meter(2, 4, 2);
        x.note(0, 0, 3, 0);
        x.note(0, 0, 4, 1);
        x.note(0, 0, 3, 0);
        x.group();
        Check.same("L is without dots: 32 is a multiple of 32", x.level(1, 2), 8);
    }
}
