/** Promise 2: meter, sentence by sentence. */
public final class Promise02MeterTest {
    public static void main(String[] args) {
        upBounds();
        downBounds();
        digitBounds();
        digitsInAll();
        negativeDigits();
        mostDigits();
        leftToRight();
        threes();
        twos();
        lastOneAThree();
        upOne();
        ones();
        ticksOfABar();
        laterMeters();
        stateWithEvents();
        outsideBeforeState();
        againAfterClear();
        Check.end();
    }

    private static void outside(String what, int up, int down, int groups) {
        StemBeams x = new StemBeams();
        x.meter(7, 8, 322);
        Check.same(what + ": meter(" + up + ", " + down + ", " + groups + ")", x.meter(up, down, groups), Score.OUTSIDE);
        Check.same(what + ": GROUPS stay", x.count(3), 3);
        Check.same(what + ": TICKS stay", x.count(4), 224);
    }

    private static void many(int up, int down, int groups, int due) {
        StemBeams x = new StemBeams();
        String told = "meter(" + up + ", " + down + ", " + groups + ")";
        Check.same(told, x.meter(up, down, groups), due);
        Check.same("GROUPS of " + told, x.count(3), due);
    }

    /** The GROUPS in which events begin that fill a bar and one unit more. */
    private static void places(int up, int down, int groups, int... due) {
        StemBeams x = new StemBeams();
        x.meter(up, down, groups);
        int value = down == 2 ? 1 : down == 4 ? 2 : down == 8 ? 3 : 4;
        int[] got = new int[up + 1];
        for (int i = 0; i <= up; i++) {
            got[i] = x.event(x.pause(0, value, 0), 5);
        }
        Check.row("GROUPS of meter(" + up + ", " + down + ", " + groups + ")", got, due);
    }

    private static void upBounds() {
        Check.promise(2, "UP is 1 to 16");
        for (int down : new int[] {2, 4, 8, 16}) {
            outside("0 is too small", 0, down, 0);
            outside("-1 is too small", -1, down, 0);
            outside("17 is too large", 17, down, 0);
            outside("18 is too large, in threes", 18, down, 0);
            outside("the least int", Score.LOW, down, 0);
            outside("the greatest int", Score.HIGH, down, 0);
            many(1, down, 0, 1);
            many(16, down, 0, down < 8 ? 16 : 8);
        }
        outside("17 told by digits", 17, 4, 98);
        outside("0 with a digit", 0, 4, 1);
    }

    private static void downBounds() {
        Check.promise(2, "DOWN is 2, 4, 8 or 16");
        for (int down = -17; down <= 33; down++) {
            if (down == 2 || down == 4 || down == 8 || down == 16) {
                many(2, down, 2, 1);
            } else {
                outside("DOWN", 2, down, 0);
                outside("DOWN, with digits", 2, down, 11);
            }
        }
        outside("64", 2, 64, 0);
        outside("256", 2, 256, 0);
        outside("the least int", 2, Score.LOW, 0);
        outside("the greatest int", 2, Score.HIGH, 0);
    }

    private static void digitBounds() {
        Check.promise(2, "each digit is 1 to 9");
        outside("a 0 at the end", 4, 4, 40);
        outside("a 0 within", 4, 4, 202);
        outside("a 0 within four", 4, 4, 1021);
        outside("two at the end", 4, 4, 400);
        outside("nine of them", 1, 4, 1000000000);
        for (int digit = 1; digit <= 9; digit++) {
            many(digit, 4, digit, 1);
        }
    }

    private static void digitsInAll() {
        Check.promise(2, "the digits are UP in all");
        outside("one less", 4, 4, 3);
        outside("one more", 4, 4, 5);
        outside("one less, of two", 4, 4, 21);
        outside("one more, of two", 4, 4, 32);
        outside("one less, of 16", 16, 4, 96);
        outside("one more, of 16", 16, 4, 98);
        many(4, 4, 4, 1);
        many(4, 4, 31, 2);
        many(4, 4, 1111, 4);
        many(16, 4, 97, 2);
        many(16, 16, 79, 2);
    }

    private static void negativeDigits() {
        Check.promise(2, "a number below 0 has no digits 1 to 9");
        outside("-1", 1, 4, -1);
        outside("-4", 4, 4, -4);
        outside("-22", 4, 4, -22);
        outside("the least int", 16, 4, Score.LOW);
    }

    private static void mostDigits() {
        Check.promise(2, "as many digits as the number has");
        many(10, 16, 1111111111, 10);
        many(11, 16, 2111111111, 10);
        many(16, 16, 1111111117, 10);
        many(9, 16, 111111111, 9);
        outside("ten ones are not 9", 9, 16, 1111111111);
        for (int up = 1; up <= 16; up++) {
            outside("the greatest int", up, 16, Score.HIGH);
        }
        places(10, 16, 1111111111, 0, 1, 2, 3, 4, 5, 6, 7, 8, 9, 0);
        places(11, 16, 2111111111, 0, 0, 1, 2, 3, 4, 5, 6, 7, 8, 9, 0);
    }

    private static void leftToRight() {
        Check.promise(2, "digits are told from left to right");
        places(3, 4, 21, 0, 0, 1, 0);
        places(3, 4, 12, 0, 1, 1, 0);
        places(7, 8, 322, 0, 0, 0, 1, 1, 2, 2, 0);
        places(7, 8, 223, 0, 0, 1, 1, 2, 2, 2, 0);
        places(6, 16, 123, 0, 1, 1, 2, 2, 2, 0);
        places(3, 2, 12, 0, 1, 1, 0);
    }

    private static void threes() {
        Check.promise(2, "DOWN 8 or 16 and UP a multiple of 3: threes");
        for (int down = 8; down <= 16; down += 8) {
            for (int up = 3; up <= 15; up += 3) {
                many(up, down, 0, up / 3);
            }
            places(3, down, 0, 0, 0, 0, 0);
            places(6, down, 0, 0, 0, 0, 1, 1, 1, 0);
            places(9, down, 0, 0, 0, 0, 1, 1, 1, 2, 2, 2, 0);
        }
    }

    private static void twos() {
        Check.promise(2, "else DOWN 8 or 16: twos");
        for (int down = 8; down <= 16; down += 8) {
            for (int up : new int[] {2, 4, 8, 10, 14, 16}) {
                many(up, down, 0, up / 2);
            }
            places(2, down, 0, 0, 0, 0);
            places(4, down, 0, 0, 0, 1, 1, 0);
            places(8, down, 0, 0, 0, 1, 1, 2, 2, 3, 3, 0);
        }
    }

    private static void lastOneAThree() {
        Check.promise(2, "the last one a three, if UP is odd");
        for (int down = 8; down <= 16; down += 8) {
            for (int up : new int[] {5, 7, 11, 13}) {
                many(up, down, 0, (up - 1) / 2);
            }
            places(5, down, 0, 0, 0, 1, 1, 1, 0);
            places(7, down, 0, 0, 0, 1, 1, 2, 2, 2, 0);
            places(13, down, 0, 0, 0, 1, 1, 2, 2, 3, 3, 4, 4, 5, 5, 5, 0);
        }
    }

    private static void upOne() {
        Check.promise(2, "UP 1: a one");
        for (int down = 2; down <= 16; down *= 2) {
            many(1, down, 0, 1);
            places(1, down, 0, 0, 0);
        }
    }

    private static void ones() {
        Check.promise(2, "else ones");
        for (int down = 2; down <= 4; down += 2) {
            for (int up = 1; up <= 16; up++) {
                many(up, down, 0, up);
            }
            places(3, down, 0, 0, 1, 2, 0);
            places(5, down, 0, 0, 1, 2, 3, 4, 0);
        }
        places(16, 2, 0, 0, 1, 2, 3, 4, 5, 6, 7, 8, 9, 10, 11, 12, 13, 14, 15, 0);
    }

    private static void ticksOfABar() {
        Check.promise(2, "a bar has UP 256 / DOWN TICKS");
        for (int down = 2; down <= 16; down *= 2) {
            for (int up = 1; up <= 16; up++) {
                StemBeams x = new StemBeams();
                x.meter(up, down, 0);
                Check.same(up + " by " + down, x.count(4), up * 256 / down);
            }
        }
    }

    private static void laterMeters() {
        Check.promise(2, "without events the METER may be told again");
        StemBeams x = new StemBeams();
        x.meter(16, 2, 0);
        x.meter(3, 8, 0);
        Check.same("GROUPS are the latest one's", x.count(3), 1);
        x.pause(0, 3, 0);
        Check.same("a half goes beyond it", x.pause(0, 1, 0), Score.STATE);
    }

    private static void stateWithEvents() {
        Check.promise(2, "STATE: there are events");
        StemBeams x = new StemBeams();
        x.note(0, 0, 6, 0);
        Check.same("a NOTE of VOICE 0", x.meter(3, 4, 0), Score.STATE);
        x = new StemBeams();
        x.pause(0, 6, 0);
        Check.same("a REST of VOICE 0", x.meter(3, 4, 0), Score.STATE);
        x = new StemBeams();
        x.pause(1, 6, 0);
        Check.same("a REST of VOICE 1", x.meter(3, 4, 0), Score.STATE);
        x = new StemBeams();
        x.note(0, 0, 0, 1);
        Check.same("a refused NOTE is no event", x.meter(3, 4, 0), 3);
        Score.refused("meter(3, 4, 0)", Score::rich, y -> y.meter(3, 4, 0), Score.STATE);
        Score.refused("the METER that it has", Score::rich, y -> y.meter(4, 4, 0), Score.STATE);
        Score.refused("with 64 events", Score::full, y -> y.meter(3, 4, 0), Score.STATE);
    }

    private static void outsideBeforeState() {
        Check.promise(2, "OUTSIDE goes before STATE");
        Score.refused("UP 0", Score::rich, y -> y.meter(0, 4, 0), Score.OUTSIDE);
        Score.refused("DOWN 5", Score::rich, y -> y.meter(4, 5, 0), Score.OUTSIDE);
        Score.refused("digits of 5", Score::rich, y -> y.meter(4, 4, 5), Score.OUTSIDE);
    }

    private static void againAfterClear() {
        Check.promise(2, "without events again, after clear()");
        StemBeams x = Score.rich();
        x.clear();
        Check.same("meter(5, 8, 0)", x.meter(5, 8, 0), 2);
        Check.same("TICKS", x.count(4), 160);
    }
}
