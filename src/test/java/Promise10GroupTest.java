/** Promise 10: group, sentence by sentence. */
public final class Promise10GroupTest {
    private static final int NO = StemBeams.NONE, REST = StemBeams.STATE;

    public static void main(String[] args) {
        nothing();
        twoOrMore();
        valuesOfNotes();
        valuesOfRests();
        severalRests();
        theOneBeforeIsSuchAOne();
        noEventOfItsVoiceBetween();
        oneGroup();
        oneBar();
        joined();
        cut();
        sixteen();
        restsDoNotCount();
        numbered();
        most();
        openOnes();
        madeAnew();
        upToTheLastCall();
        Check.end();
    }

    /** The beams of all notes, after group(). */
    private static void beams(String what, StemBeams x, int... due) {
        x.group();
        int[] got = new int[x.count(0)];
        for (int i = 0; i < got.length; i++) {
            got[i] = x.stem(i, 4);
        }
        Check.row(what, got, due);
    }

    private static void nothing() {
        Check.promise(10, "how many: none of no events");
        StemBeams x = new StemBeams();
        Check.same("group()", x.group(), 0);
        x.pause(0, 4, 0);
        x.pause(1, 4, 0);
        Check.same("of RESTS", x.group(), 0);
        Check.same("beams", x.count(1), 0);
    }

    private static void twoOrMore() {
        Check.promise(10, "a row of two or more that go on is a beam");
        beams("one", Score.of(3, 0), NO);
        beams("two", Score.of(3, 0, 0), 0, 0);
        beams("three", Score.of(3, 0, 0, 0), 0, 0, 0);
        Check.same("how many of one", Score.of(3, 0).group(), 0);
        Check.same("how many of two", Score.of(3, 0, 0).group(), 1);
    }

    private static void valuesOfNotes() {
        Check.promise(10, "NOTES of VALUES 3 to 6");
        for (int value = 0; value <= 6; value++) {
            int due = value >= 3 ? 0 : NO;
            beams("VALUE " + value, Score.of(value, 0, 0), due, due);
        }
    }

    private static void valuesOfRests() {
        Check.promise(10, "only RESTS of VALUES 3 to 6 between, and beams go over RESTS");
        for (int value = 0; value <= 6; value++) {
            StemBeams x = Score.wide();
            x.note(0, 0, 3, 0);
            x.pause(0, value, 0);
            x.note(0, 0, 3, 0);
            int due = value >= 3 ? 0 : NO;
            beams("a REST of VALUE " + value, x, due, REST, due);
            x.over(false);
            beams("not over one of VALUE " + value, x, NO, REST, NO);
        }
    }

    private static void severalRests() {
        Check.promise(10, "all RESTS between are of VALUES 3 to 6");
        for (int value = 2; value <= 3; value++) {
            for (int at = 0; at < 3; at++) {
                StemBeams x = Score.wide();
                x.note(0, 0, 6, 0);
                for (int i = 0; i < 3; i++) {
                    x.pause(0, i == at ? value : 6, 0);
                }
                x.note(0, 0, 6, 0);
                int due = value == 3 ? 0 : NO;
                beams("VALUE " + value + " at " + at, x, due, REST, REST, REST, due);
            }
        }
    }

    private static void theOneBeforeIsSuchAOne() {
        Check.promise(10, "it goes on from the one before, if that is such a one");
        for (int value = 0; value <= 6; value++) {
            StemBeams x = Score.wide();
            x.note(0, 0, value, 0);
            x.note(0, 0, 3, 0);
            x.note(0, 0, value, 0);
            int due = value >= 3 ? 0 : NO;
            beams("VALUE " + value + " beside", x, due, due, due);
            x.mark(1, 2);
            x.mark(2, 2);
            beams("even JOINED", x, due, due, due);
        }
        StemBeams x = Score.wide();
        x.note(0, 0, 3, 0);
        x.note(0, 0, 2, 0);
        x.pause(0, 3, 0);
        x.note(0, 0, 3, 0);
        beams("a quarter before a REST", x, NO, NO, REST, NO);
    }

    private static void noEventOfItsVoiceBetween() {
        Check.promise(10, "of its voice: the other one's events lie nowhere between");
        StemBeams x = new StemBeams();
        x.note(0, 0, 4, 0);
        x.note(0, 1, 2, 0);
        x.pause(1, 2, 0);
        x.note(0, 0, 4, 0);
        beams("VOICE 0", x, 0, NO, REST, 0);
        x = new StemBeams();
        x.note(0, 1, 4, 0);
        x.pause(0, 2, 0);
        x.note(0, 0, 2, 0);
        x.note(0, 1, 4, 0);
        beams("VOICE 1", x, 0, REST, NO, 0);
        x = new StemBeams();
        x.note(0, 0, 4, 0);
        x.note(0, 1, 4, 0);
        x.mark(1, 2);
        beams("nor do two voices go on", x, NO, NO);
    }

    private static void oneGroup() {
        Check.promise(10, "both begin in one GROUP");
        StemBeams x = new StemBeams();
        x.note(0, 0, 3, 1);
        x.note(0, 0, 5, 1);
        x.note(0, 0, 3, 0);
        beams("at 60, though it ends behind the GROUP", x, 0, 0, 0);
        x = new StemBeams();
        x.note(0, 0, 3, 1);
        x.note(0, 0, 4, 0);
        x.note(0, 0, 3, 0);
        beams("at 64, the next GROUP", x, 0, 0, NO);
        x = new StemBeams();
        x.note(0, 0, 4, 0);
        x.note(0, 0, 3, 1);
        x.note(0, 0, 4, 0);
        x.note(0, 0, 4, 0);
        beams("two and two", x, 0, 0, 1, 1);
        x = new StemBeams();
        x.meter(5, 8, 23);
        Score.add(x, 0, 3, 0, 0, 0, 0, 0);
        beams("GROUPS of digits", x, 0, 0, 1, 1, 1);
    }

    private static void oneBar() {
        Check.promise(10, "of one bar");
        StemBeams x = new StemBeams();
        x.meter(1, 8, 0);
        Score.add(x, 0, 4, 0, 0, 0, 0, 0, 0);
        beams("GROUP 0 of each bar", x, 0, 0, 1, 1, 2, 2);
        x = new StemBeams();
        x.meter(2, 8, 0);
        x.note(0, 0, 3, 0);
        x.note(0, 0, 3, 0);
        x.note(0, 0, 3, 0);
        beams("the third is in the next bar", x, 0, 0, NO);
    }

    private static void joined() {
        Check.promise(10, "or it is JOINED");
        StemBeams x = new StemBeams();
        Score.add(x, 0, 3, 0, 0, 0, 0);
        x.mark(2, 2);
        beams("over GROUPS", x, 0, 0, 0, 0);
        x.mark(2, 0);
        x.mark(1, 2);
        beams("the one before JOINED is not enough", x, 0, 0, 1, 1);
        x.mark(0, 2);
        beams("the first one JOINED", x, 0, 0, 1, 1);
        x = new StemBeams();
        x.meter(1, 4, 0);
        Score.add(x, 0, 3, 0, 0, 0, 0);
        x.mark(2, 2);
        beams("over bars", x, 0, 0, 0, 0);
        x = new StemBeams();
        Score.add(x, 0, 3, 0, Score.REST, 0, 0);
        x.mark(2, 2);
        beams("a REST parts them still", x, NO, REST, 0, 0);
        x.over(true);
        beams("over a REST and GROUPS", x, 0, REST, 0, 0);
        x = new StemBeams();
        x.over(true);
        x.note(0, 0, 3, 0);
        x.pause(0, 2, 0);
        x.note(0, 0, 3, 0);
        x.mark(2, 2);
        beams("a long REST parts them still", x, NO, REST, NO);
    }

    private static void cut() {
        Check.promise(10, "and it is not CUT");
        StemBeams x = Score.of(4, 0, 0, 0, 0);
        x.mark(2, 1);
        beams("within", x, 0, 0, 1, 1);
        x.mark(2, 0);
        x.mark(0, 1);
        beams("the first one", x, 0, 0, 0, 0);
        x.mark(3, 1);
        beams("the last one", x, 0, 0, 0, NO);
        x.mark(1, 1);
        beams("the second one", x, NO, 0, 0, NO);
        x.mark(2, 1);
        beams("all", x, NO, NO, NO, NO);
        x = Score.of(4, 0, Score.REST, 0);
        x.mark(2, 1);
        beams("behind a REST", x, NO, REST, NO);
    }

    private static void sizes(int notes, int... due) {
        for (int joined = 0; joined <= 1; joined++) {
            StemBeams x = Score.wide();
            for (int i = 0; i < notes; i++) {
                x.note(0, 0, 6, 0);
                if (joined == 1) {
                    x.mark(i, 2);
                }
            }
            Check.same(notes + " notes", x.group(), due.length);
            for (int b = 0; b < due.length; b++) {
                Check.same("beam " + b + " of " + notes + " notes", x.beam(b, 0), due[b]);
                Check.same("its first note", x.member(b, 0), 16 * b);
            }
            int last = notes - 1;
            Check.same("the last note's beam", x.stem(last, 4), last / 16 < due.length ? last / 16 : NO);
        }
    }

    private static void sixteen() {
        Check.promise(10, "16 at most (the 17th does not go on)");
        sizes(15, 15);
        sizes(16, 16);
        sizes(17, 16);
        sizes(18, 16, 2);
        sizes(32, 16, 16);
        sizes(33, 16, 16);
        sizes(34, 16, 16, 2);
        sizes(63, 16, 16, 16, 15);
        sizes(64, 16, 16, 16, 16);
    }

    private static void restsDoNotCount() {
        Check.promise(10, "16 at most: notes, not RESTS within");
        StemBeams x = Score.wide();
        for (int i = 0; i < 17; i++) {
            x.note(0, 0, 6, 0);
            x.pause(0, 6, 0);
        }
        Check.same("beams", x.group(), 1);
        Check.same("its notes", x.beam(0, 0), 16);
        Check.same("its last one", x.member(0, 15), 30);
        Check.same("the 17th", x.stem(32, 4), NO);
    }

    private static void numbered() {
        Check.promise(10, "numbered voice by voice, from left to right");
        StemBeams x = new StemBeams();
        Score.add(x, 1, 3, 0, 0, 0, 0);
        Score.add(x, 0, 3, 0, 0, 0, 0);
        beams("VOICE 1 came first", x, 2, 2, 3, 3, 0, 0, 1, 1);
        x = new StemBeams();
        Score.add(x, 1, 3, 0, 0);
        beams("VOICE 1 alone", x, 0, 0);
    }

    private static void most() {
        Check.promise(10, "as many as 64 notes make");
        // All in VOICE 0, half of them, all in VOICE 1.
        for (int upper = 64; upper >= 0; upper -= 32) {
            StemBeams x = new StemBeams();
            for (int i = 0; i < 64; i++) {
                x.note(i % 5, i < upper ? 0 : 1, 6, 0);
                x.mark(i, i % 2 == 0 ? 1 : 2);
            }
            Check.same("beams", x.group(), 32);
            for (int b = 0; b < 32; b++) {
                Check.same("notes of " + b, x.beam(b, 0), 2);
                Check.same("first note of " + b, x.member(b, 0), 2 * b);
                Check.same("last note of " + b, x.member(b, 1), 2 * b + 1);
            }
            Check.same("no beam 32", x.beam(32, 0), Score.UNKNOWN);
            Check.same("again", x.group(), 32);
        }
    }

    /** Notes 0 and 1 are too near for a beam BETWEEN; 2 and 3 have one. */
    private static StemBeams withAnOpenOne() {
        StemBeams x = new StemBeams();
        x.note(-12, 0, 3, 0);
        x.note(12, 0, 3, 0);
        x.note(1, 0, 3, 0);
        x.note(1, 0, 3, 0);
        x.staff(1, 1);
        return x;
    }

    private static void openOnes() {
        Check.promise(10, "OPEN ones are none");
        StemBeams x = withAnOpenOne();
        Check.same("how many", x.group(), 1);
        Check.same("beams", x.count(1), 1);
        Check.same("OPEN ones", x.count(2), 1);
        beams("their notes have none, nor a number", x, NO, NO, 0, 0);
        Check.same("beam 1", x.beam(1, 0), Score.UNKNOWN);
        Check.same("FLAGS", x.stem(0, 3), 1);
        Check.same("goes up as alone", x.stem(0, 0), 1);
        Check.same("no LEVEL 1", x.level(0, 1), 0);
        x.mark(2, 2);
        Check.same("four of which two are too near", x.group(), 0);
        Check.same("one OPEN", x.count(2), 1);
    }

    private static void madeAnew() {
        Check.promise(10, "BEAMS are made anew");
        StemBeams x = Score.rich();
        Check.same("as before", x.group(), 3);
        Check.same("not FEATHERED", x.beam(0, 7), 0);
        x.feather(0, 1);
        Score.sameLook("the rest is as it was", x, Score.rich());
    }

    private static void upToTheLastCall() {
        Check.promise(10, "an object is used for 512 calls");
        StemBeams x = Score.full();
        int beams = x.count(1);
        long badness = x.badness(0);
        // Score.full() takes 65 calls; with these it is 67.
        for (int i = 0; i < 222; i++) {
            Check.same("beams", x.group(), beams);
            Check.same("badness", x.badness(0), badness);
        }
        Check.same("the 512th call", x.count(0), 64);
    }
}
