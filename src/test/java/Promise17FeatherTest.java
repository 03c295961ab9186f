/** Promise 17: feather, sentence by sentence. */
public final class Promise17FeatherTest {
    public static void main(String[] args) {
        howItWas();
        eachForItself();
        unknown();
        bounds();
        order();
        madeAnew();
        keepsBeams();
        Check.end();
    }

    private static void howItWas() {
        Check.promise(17, "how it was");
        StemBeams x = Score.of(6, 0, 0, 0);
        int was = 0;
        for (int way : new int[] {0, 1, 1, 2, 2, 0, 2, 1, 0}) {
            Check.same("feather(0, " + way + ")", x.feather(0, way), was);
            Check.same("now", x.beam(0, 7), way);
            was = way;
        }
    }

    private static void eachForItself() {
        Check.promise(17, "a beam is FEATHERED, another is not");
        StemBeams x = Score.rich();
        Check.same("beam 2", x.feather(2, 2), 0);
        Check.same("beam 0 stays", x.beam(0, 7), 1);
        Check.same("beam 1 stays", x.beam(1, 7), 0);
        Check.same("beam 2 now", x.beam(2, 7), 2);
    }

    private static void unknown() {
        Check.promise(17, "UNKNOWN: no such beam");
        for (int beam : Score.NO_NUMBERS) {
            Score.refused("feather(" + beam + ", 2)", Score::rich, x -> x.feather(beam, 2), Score.UNKNOWN);
        }
        Score.refused("the one behind the last", Score::rich, x -> x.feather(3, 2), Score.UNKNOWN);
        StemBeams x = Score.rich();
        x.over(true);
        Check.same("taken away", x.feather(0, 1), Score.UNKNOWN);
        Check.same("before group()", new StemBeams().feather(0, 0), Score.UNKNOWN);
    }

    private static void bounds() {
        Check.promise(17, "0 to 2: OUTSIDE");
        for (int way : new int[] {-1, 3, Score.LOW, Score.HIGH}) {
            Score.refused("feather(0, " + way + ")", Score::rich, x -> x.feather(0, way), Score.OUTSIDE);
        }
    }

    private static void order() {
        Check.promise(17, "UNKNOWN, then OUTSIDE");
        Score.refused("UNKNOWN before OUTSIDE", Score::rich, x -> x.feather(3, 3), Score.UNKNOWN);
    }

    private static void madeAnew() {
        Check.promise(17, "made anew it is not");
        StemBeams x = Score.rich();
        x.feather(2, 2);
        x.group();
        for (int b = 0; b < 3; b++) {
            Check.same("beam " + b, x.beam(b, 7), 0);
            Check.same("how it was", x.feather(b, 1), 0);
        }
        x.clear();
        Score.add(x, 0, 4, 0, 0);
        x.group();
        Check.same("after clear()", x.beam(0, 7), 0);
    }

    private static void keepsBeams() {
        Check.promise(17, "it takes no beams away, nor moves them");
        StemBeams x = Score.of(6, 2, -3, 4);
        StemBeams twin = Score.of(6, 2, -3, 4);
        x.feather(0, 2);
        for (int what = 0; what <= 6; what++) {
            Check.same("beam(0, " + what + ")", x.beam(0, what), twin.beam(0, what));
        }
        for (int note = 0; note < 3; note++) {
            Check.same("end of " + note, x.stem(note, 1), twin.stem(note, 1));
            Check.same("LEVEL 4 of " + note, x.level(note, 4), twin.level(note, 4));
        }
        x.feather(0, 0);
        Score.sameLook("and back", x, twin);
    }
}
