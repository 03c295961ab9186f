/** Promises 11, 13, 14 and 20: directions of beams, f, SLANT, IDEAL, FLAT, BADNESS and shares. */
public final class PlacesTest {
    public static void main(String[] args) {
        directions();
        wedgesAndTies();
        farBehind();
        rounding();
        flat();
        ideal();
        lengthsByLevels();
        otherStaff();
        between();
        betweenBounds();
        others();
        shares();
        Check.end();
    }

    /** Notes of one VALUE in one beam of VOICE 0, grouped. */
    private static StemBeams of(int value, int... places) {
        StemBeams x = new StemBeams();
        x.meter(4, 4, 4);
        for (int p : places) {
            x.note(p, 0, value, 0);
        }
        x.group();
        return x;
    }

    /** direction, f, SLANT, IDEAL, FLAT of beam 0 */
    private static void lies(String what, StemBeams x, long badness, int... due) {
        int[] got = new int[5];
        for (int i = 0; i < got.length; i++) {
            got[i] = x.beam(0, i + 2);
        }
        Check.row(what, got, due);
        Check.same(what + ": badness", x.badness(0), badness);
    }

    private static void directions() {
        Check.promise(11, "directions");
        Check.same("sum below 0", of(3, -3, 2).beam(0, 2), 1);
        Check.same("sum above 0", of(3, 3, -2).beam(0, 2), -1);
        Check.same("highest and lowest count, not the ends", of(3, -3, 5, -3).beam(0, 2), -1);
        Check.same("sum 0, as many", of(3, -3, 3).beam(0, 2), -1);
        Check.same("sum 0, more up", of(3, -3, 3, -1).beam(0, 2), 1);
        Check.same("sum 0, more down", of(3, -3, 3, 1).beam(0, 2), -1);
        Check.same("on the middle line", of(3, 0, 0).beam(0, 2), -1);
        StemBeams x = of(3, 1, 1);
        x.also(1, -4);
        x.group();
        Check.same("the lowest of a chord counts", x.beam(0, 2), 1);
        x.also(1, 5);
        x.group();
        Check.same("and the highest", x.beam(0, 2), -1);
        x.pause(1, 2, 0);
        x.staff(0, 1);
        x.staff(1, 1);
        x.group();
        Check.same("VOICE 0 of two goes up", x.beam(0, 2), 1);
        x = of(3, 12, 12);
        x.pause(1, 2, 0);
        x.note(-12, 1, 3, 0);
        x.note(-12, 1, 3, 0);
        x.group();
        Check.same("high, but VOICE 0 of two", x.beam(0, 2), 1);
        Check.same("low, but VOICE 1", x.beam(1, 2), -1);
        x.staff(0, 1);
        x.group();
        Check.same("BETWEEN with two voices", x.count(2) == 1 ? 0 : x.beam(0, 2), 0);
    }

    private static void wedgesAndTies() {
        Check.promise(13, "wedges; of like ones the first");
        // LENGTHS of 14 end at 6, a wedge; 5 and 7 are as good: the first one, upwards, is 5.
        StemBeams x = of(3, -4, -4);
        lies("up", x, 2, 1, 5, 0, 0, 1);
        Check.same("on wedges", x.other(0, 6, 0), 50);
        Check.same("as good", x.other(0, 7, 0), 2);
        Check.same("one end on a wedge, slanted", x.other(0, 5, 1), 34);
        Check.same("just long enough, on wedges", x.other(0, 2, 0), 82);
        Check.same("too short", x.other(0, 1, 0), -1);
        Check.same("one too short", x.other(0, 2, -1), -1);
        // Downwards -5 comes before -7.
        x = of(3, 4, 4);
        lies("down", x, 2, -1, -5, 0, 0, 1);
        Check.same("on wedges, below", x.other(0, -6, 0), 50);
        Check.same("as good, below", x.other(0, -7, 0), 2);
        // 8 and 10: a multiple of 4 is no wedge, beyond the lines there is none.
        x = of(3, -3, -3);
        lies("on the highest line", x, 0, 1, 8, 0, 0, 1);
        x = of(3, -2, -2);
        lies("beyond the lines", x, 0, 1, 10, 0, 0, 1);
        // f 0 with LENGTHS 14 at -14 and 14.
        x = of(3, -7, -7);
        lies("on the middle line", x, 0, 1, 0, 0, 0, 1);
        x = of(3, -6, -6);
        lies("a wedge at 2", x, 2, 1, 1, 0, 0, 1);
        x = of(3, -8, -8);
        // WANT is 16, to the middle line.
        lies("to the middle line", x, 0, 1, 0, 0, 0, 1);
    }

    private static void farBehind() {
        Check.promise(11, "heights up to 12 behind");
        // NEAR -22, WANT 22, level height -12: 0 is 12 behind it.
        lies("12 behind", of(3, -11, -11), 0, 1, 0, 0, 0, 1);
        // NEAR -24, WANT 24, level height -14: up to -2, a wedge; -3 is left.
        lies("no farther up", of(3, -12, -12), 18, 1, -3, 0, 0, 1);
        lies("12 behind, down", of(3, 11, 11), 0, -1, 0, 0, 0, 1);
        lies("no farther down", of(3, 12, 12), 18, -1, 3, 0, 0, 1);
    }

    private static void rounding() {
        Check.promise(11, "ROUNDED");
        StemBeams x = of(3, 0, 2);
        lies("two notes", x, 2, -1, -13, 2, 2, 0);
        lies("three notes in a row", of(3, 0, 1, 2), 2, -1, -13, 2, 2, 0);
        x = of(3, 0, 0, 1);
        lies("a half goes up", x, 2, -1, -14, 1, 1, 0);
        Check.same("the inner end", x.stem(1, 1), -13);
        x = of(3, 1, 0, 0);
        lies("a half goes down", x, 1, -1, -13, -1, -1, 0);
        Check.same("the inner end", x.stem(1, 1), -14);
        // Thirds of 2: 2/3 is 1, 4/3 is 1. NEAR 0 0 0 4 with s 2: heights f, f+1, f+1, f+2.
        x = of(3, 0, 0, 0, 2);
        Check.row("thirds", new int[] {x.stem(0, 1) - x.beam(0, 3), x.stem(1, 1) - x.beam(0, 3),
            x.stem(2, 1) - x.beam(0, 3), x.stem(3, 1) - x.beam(0, 3)}, 0, 1, 1, 2);
        Check.same("SLANT", x.beam(0, 4), 2);
    }

    private static void flat() {
        Check.promise(11, "FLAT");
        lies("an inner note is lower, down", of(3, 3, 1, 4), 19, -1, -9, 0, 0, 1);
        lies("an inner note is higher, up", of(3, -3, -1, -4), 19, 1, 9, 0, 0, 1);
        Check.same("an inner one as low as an end", of(3, 3, 3, 4).beam(0, 6), 0);
        Check.same("an inner one farther from the beam", of(3, 3, 9, 4).beam(0, 6), 0);
        Check.same("an inner one lower than one end alone", of(3, 3, 4, 6).beam(0, 6), 0);
        Check.same("two ends alike", of(3, 3, 4, 3).beam(0, 6), 1);
        StemBeams x = of(3, 1, 2);
        x.also(0, 5);
        x.also(1, 1);
        x.group();
        Check.same("NEAR of chords alike", x.beam(0, 6), 1);
        // NEAR 4, 2, then 20 six times with WANT 20: level at -8 they are off by -2, -4 and 8.
        x = of(3, 2, 1, 10, 10, 10, 10, 10, 10);
        lies("SLANT 0 alone is tried", x, 404, -1, -8, 0, 0, 1);
        Check.same("though SLANT 1 would be better", x.other(0, -8, 1), 352);
        lies("an inner one is the lowest of four", of(3, 5, 4, 3, 6), 20, -1, -5, 0, 0, 1);
    }

    private static void ideal() {
        Check.promise(11, "IDEAL");
        Check.same("half of e", of(3, 2, 5).beam(0, 5), 3);
        Check.same("downwards", of(3, 5, 2).beam(0, 5), -3);
        Check.same("6 at most", of(3, 2, 8).beam(0, 5), 6);
        Check.same("6 at most", of(3, 2, 12).beam(0, 5), 6);
        Check.same("-6 at least", of(3, 12, 2).beam(0, 5), -6);
        Check.same("0 if FLAT", of(3, 3, 1, 4).beam(0, 5), 0);
        // e 20, IDEAL 6 and -6: LENGTHS alike as near as 6 lets them.
        StemBeams x = of(3, 2, 12);
        Check.same("SLANT 6 is tried", x.beam(0, 4), 6);
        x = of(3, 12, 2);
        Check.same("SLANT -6 is tried", x.beam(0, 4), -6);
    }

    private static void lengthsByLevels() {
        Check.promise(13, "WANT and LEAST by LEVELS");
        // VALUE 4: 14; 5: 17; 6: 20. NEAR -4: ends at 10, 13, 16.
        lies("LEVELS 2", of(4, -2, -2), 0, 1, 10, 0, 0, 1);
        lies("LEVELS 3", of(5, -2, -2), 0, 1, 13, 0, 0, 1);
        lies("LEVELS 4", of(6, -2, -2), 0, 1, 16, 0, 0, 1);
        Check.same("LEAST of LEVELS 2", of(4, -2, -2).other(0, 5, 0), -1);
        Check.same("LEAST of LEVELS 3", of(5, -2, -2).other(0, 8, 0), -1);
        Check.same("13 is enough", of(5, -2, -2).other(0, 9, 0), 32);
        Check.same("LEAST of LEVELS 4", of(6, -2, -2).other(0, 11, 0), -1);
        Check.same("16 is enough", of(6, -2, -2).other(0, 12, 0), 32);
        // NEAR -20: the middle line is not farther than 20.
        lies("WANT 20 as it is", of(6, -10, -10), 0, 1, 0, 0, 0, 1);
        lies("WANT 22", of(6, -11, -11), 0, 1, 0, 0, 0, 1);
        // VALUES 3 and 6: NEAR -4 both, WANT 14 and 20, LEAST 10 and 16: at 13 both off by 3.
        StemBeams x = new StemBeams();
        x.note(-2, 0, 3, 0);
        x.note(-2, 0, 6, 0);
        x.group();
        lies("mixed", x, 18, 1, 13, 0, 0, 1);
        Check.same("greatest LEVEL", x.beam(0, 1), 4);
    }

    private static void otherStaff() {
        Check.promise(13, "STAFF 1");
        StemBeams x = of(3, -4, -4);
        x.staff(0, 1);
        x.staff(1, 1);
        x.group();
        lies("48 lower", x, 2, 1, -43, 0, 0, 1);
        Check.same("wedges of STAFF 1", x.other(0, -42, 0), 50);
        Check.same("no wedges of STAFF 0", x.other(0, 2, 0), 2 * 44 * 44);
        x = of(3, 4, 4);
        x.staff(0, 1);
        x.staff(1, 1);
        x.group();
        lies("48 lower, down", x, 2, -1, -53, 0, 0, 1);
    }

    private static void between() {
        Check.promise(13, "BETWEEN");
        StemBeams x = of(3, 5, -5);
        x.staff(1, 1);
        x.group();
        lies("BETWEEN", x, 754, 0, -23, -2, 0, 0);
        Check.same("no IDEAL but 0", x.other(0, -24, 0), 800);
        Check.same("the upper one goes down", x.stem(0, 0), -1);
        Check.same("the lower one goes up", x.stem(1, 0), 1);
        Check.same("their LENGTHS", x.stem(0, 2), 33);
        // One that is farther from its middle line than 14: WANT stays 14 BETWEEN, and no height is a wedge.
        x = of(3, 12, -12);
        x.staff(1, 1);
        x.group();
        Check.same("WANT 14: 34 and 34 off", x.other(0, -24, 0), 2 * 34 * 34);
        Check.same("no wedges", x.other(0, 2, 0), 8 * 8 + 60 * 60);
        Check.same("can't lie", x.other(0, 15, 0), -1);
        Check.same("just can", x.other(0, 14, 0), 16 + 72 * 72);
        x = of(3, 2, 2, 2);
        x.staff(0, 1);
        x.staff(1, 1);
        x.group();
        Check.same("not FLAT, though the ends' heights differ", x.beam(0, 6), 0);
        Check.same("direction", x.beam(0, 2), 0);
        // NEAR 4 (down) twice with a STAFF 1 note within: ends alike, yet not FLAT.
        x = of(3, 2, 2, 2);
        x.staff(1, 1);
        x.group();
        Check.same("not FLAT, though the ends are alike", x.beam(0, 6), 0);
    }

    private static void betweenBounds() {
        Check.promise(11, "BETWEEN f is from -48 up to 0");
        StemBeams x = of(3, 12, 12, 12);
        x.staff(2, 1);
        x.group();
        lies("up to 0", x, 300, 0, 0, 0, 0, 0);
        Check.same("better, but beyond", x.other(0, 3, 0), 267);
        x = of(3, -12, -12, -12);
        x.staff(0, 1);
        x.staff(1, 1);
        x.group();
        lies("from -48", x, 300, 0, -48, 0, 0, 0);
        Check.same("better, but before", x.other(0, -51, 0), 267);
    }

    private static void others() {
        Check.promise(14, "another f and SLANT");
        StemBeams x = of(3, -4, -4);
        Check.same("f 200", x.other(0, 200, 0), 2 * 194 * 194);
        Check.same("f 201", x.other(0, 201, 0), -1);
        Check.same("f -201", x.other(0, -201, 0), -1);
        Check.same("SLANT 6", x.other(0, 20, 6), 14 * 14 + 20 * 20 + 8 * 36);
        Check.same("SLANT 7", x.other(0, 20, 7), -1);
        Check.same("SLANT -6", x.other(0, 20, -6), 14 * 14 + 8 * 8 + 8 * 36);
        Check.same("SLANT -7", x.other(0, 20, -7), -1);
        Check.same("no such beam", x.other(1, 20, 0), -1);
        Check.same("no such beam", x.other(-1, 20, 0), -1);
        Check.same("badness of no such beam", x.badness(1), -1);
        Check.same("badness of no such beam", x.badness(-1), -1);
        Check.same("other() changes nothing", x.beam(0, 3), 5);
        x = of(3, 4, 4);
        Check.same("f -200", x.other(0, -200, 0), 2 * 194 * 194);
    }

    private static long share(StemBeams x, int beam, int n) {
        try {
            return x.share(beam, n);
        } catch (ArithmeticException e) {
            return Long.MIN_VALUE;
        }
    }

    private static void shares() {
        Check.promise(20, "LENGTHS added, by how many they are");
        // LENGTHS 15, 11, 17: 43 by 3.
        StemBeams x = of(3, 3, 1, 4);
        Check.same("cut off", share(x, 0, 1), 14);
        Check.same("n 0", share(x, 0, 0), 14);
        Check.same("the least n", share(x, 0, Integer.MIN_VALUE), 14);
        Check.throwsArithmetic(x, 0, 2);
        Check.throwsArithmetic(x, 0, Integer.MAX_VALUE);
        Check.throwsArithmetic(x, 1, 1);
        Check.throwsArithmetic(x, -1, 1);
        x.mark(0, 0);
        Check.throwsArithmetic(x, 0, 1);
        // VALUES 3 and 6 at 13: 17 and 17; with another place of the second note 17 differs.
        x = new StemBeams();
        x.note(-2, 0, 3, 0);
        x.note(-2, 0, 6, 0);
        x.note(-4, 0, 4, 0);
        x.group();
        long all = (long) x.stem(0, 2) + x.stem(1, 2) + x.stem(2, 2);
        Check.same("all", share(x, 0, 1), all / 3);
        Check.same("LEVELS 2 and more", share(x, 0, 2), (x.stem(1, 2) + x.stem(2, 2)) / 2);
        Check.same("LEVELS 3 and more", share(x, 0, 3), x.stem(1, 2));
        Check.same("LEVELS 4", share(x, 0, 4), x.stem(1, 2));
        Check.throwsArithmetic(x, 0, 5);
    }
}
