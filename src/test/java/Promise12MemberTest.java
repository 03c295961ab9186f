/** Promise 12: member, sentence by sentence. */
public final class Promise12MemberTest {
    public static void main(String[] args) {
        notes();
        none();
        unknown();
        withoutBeams();
        Check.end();
    }

    private static void notes() {
        Check.promise(12, "note k of a beam");
        StemBeams x = Score.rich();
        Check.same("beam 0, first", x.member(0, 0), 0);
        Check.same("beam 0, last, behind a REST", x.member(0, 1), 2);
        Check.same("beam 1, first", x.member(1, 0), 3);
        Check.same("beam 2, last", x.member(2, 2), 7);
        x = Score.of(6, new int[18]);
        for (int k = 0; k < 16; k++) {
            Check.same("note " + k + " of 16", x.member(0, k), k);
        }
        Check.same("the 17th, in the next one", x.member(1, 0), 16);
        x = new StemBeams();
        x.note(0, 1, 4, 0);
        x.note(0, 0, 4, 0);
        x.note(0, 1, 4, 0);
        x.note(0, 0, 4, 0);
        x.group();
        Check.same("of VOICE 0", x.member(0, 1), 3);
        Check.same("of VOICE 1", x.member(1, 1), 2);
    }

    private static void none() {
        Check.promise(12, "NONE: there is none such");
        for (int k : new int[] {-1, 2, 16, 17, Score.LOW, Score.HIGH}) {
            Check.same("member(0, " + k + ") of 2", Score.rich().member(0, k), Score.NONE);
        }
        Check.same("member(2, 3) of 3", Score.rich().member(2, 3), Score.NONE);
        Check.same("member(0, 16) of 16", Score.of(6, new int[18]).member(0, 16), Score.NONE);
        Check.same("member(1, 2) of 2", Score.of(6, new int[18]).member(1, 2), Score.NONE);
        Check.same("member(0, 15) of 15", Score.of(6, new int[15]).member(0, 15), Score.NONE);
        Score.refused("member(0, 2)", Score::rich, x -> x.member(0, 2), Score.NONE);
    }

    private static void unknown() {
        Check.promise(12, "UNKNOWN: no such beam, before NONE");
        for (int beam : Score.NO_NUMBERS) {
            Check.same("member(" + beam + ", 0)", Score.rich().member(beam, 0), Score.UNKNOWN);
            Check.same("member(" + beam + ", -1)", Score.rich().member(beam, -1), Score.UNKNOWN);
        }
        Check.same("the one behind the last", Score.rich().member(3, 0), Score.UNKNOWN);
    }

    private static void withoutBeams() {
        Check.promise(12, "UNKNOWN: the beams have been taken away");
        StemBeams x = Score.rich();
        x.over(true);
        Check.same("member(0, 0)", x.member(0, 0), Score.UNKNOWN);
        x = Score.rich();
        x.clear();
        Check.same("after clear()", x.member(0, 0), Score.UNKNOWN);
    }
}
