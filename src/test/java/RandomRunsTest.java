import java.util.Random;

/** Runs of at most 512 calls, drawn from fixed seeds, on StemBeams and on PlainModel: every answer must be the same. */
public final class RandomRunsTest {
    private static final int RUNS = 1500;
    private static final int[] ODD = {Integer.MIN_VALUE, Integer.MAX_VALUE, -1, -1001, 5, 13, -13, 17, 64, 65, 201, -201};

    private static Random dice;
    private static StemBeams x;
    private static PlainModel m;
    private static int calls, farApart;
    private static int beamsSeen, openSeen, betweenSeen, fullSeen, flatSeen, restsMoved;

    public static void main(String[] args) {
        Check.about("promises 1 to 23", "runs against the plain model");
        for (int run = 0; run < RUNS; run++) {
            dice = new Random(run);
            x = new StemBeams();
            m = new PlainModel();
            calls = 0;
            farApart = 2 + dice.nextInt(11);
            oneRun("run " + run);
        }
        Check.isTrue("the runs make beams", beamsSeen > 1000);
        Check.isTrue("the runs make OPEN beams", openSeen > 50);
        Check.isTrue("the runs make beams BETWEEN", betweenSeen > 50);
        Check.isTrue("the runs make beams of 16", fullSeen > 20);
        Check.isTrue("the runs make FLAT beams", flatSeen > 100);
        Check.isTrue("the runs move RESTS", restsMoved > 20);
        Check.end();
    }

    private static void due(String run, String call, long got, long due) {
        calls++;
        Check.same(run + ", call " + calls + ": " + call, got, due);
    }

    private static void oneRun(String run) {
        if (chance(60)) {
            meter(run);
        }
        over(run, chance(60));
        boolean two = chance(40);
        int events = dice.nextInt(chance(10) ? 80 : 24) + 1;
        int shortest = dice.nextInt(4) + 3;
        for (int i = 0; i < events; i++) {
            come(run, two && chance(45) ? 1 : 0, shortest);
        }
        for (int i = dice.nextInt(12); i > 0; i--) {
            change(run);
        }
        if (chance(20)) {
            joinAll(run);
        }
        group(run);
        while (calls < 500) {
            if (chance(2)) {
                change(run);
            } else if (chance(3)) {
                group(run);
            } else {
                look(run);
            }
        }
        if (chance(30)) {
            due(run, "clear()", x.clear(), m.clear());
            for (int what = 0; what <= 6; what++) {
                due(run, "count " + what, x.count(what), m.count(what));
            }
        }
    }

    private static boolean chance(int percent) {
        return dice.nextInt(100) < percent;
    }

    /** Mostly from low to high, now and then something odd. */
    private static int pick(int low, int high) {
        return chance(4) ? ODD[dice.nextInt(ODD.length)] : low + dice.nextInt(high - low + 1);
    }

    private static void meter(String run) {
        int[] told = {0, 0, 0, 22, 31, 13, 211, 322, 223, 232, 1111, 44, 8, 4, 332, 40, -22};
        int up = pick(1, 16);
        int down = chance(90) ? 2 << dice.nextInt(4) : pick(0, 17);
        int groups = told[dice.nextInt(told.length)];
        if (chance(50)) {
            up = 0;
            for (int g = groups; g > 0; g /= 10) {
                up += g % 10;
            }
        }
        due(run, "meter(" + up + ", " + down + ", " + groups + ")", x.meter(up, down, groups), m.meter(up, down, groups));
    }

    private static int place() {
        return chance(3) ? pick(-12, 12) : Math.max(-12, Math.min(12, dice.nextInt(2 * farApart + 1) - farApart));
    }

    private static void come(String run, int voice, int shortest) {
        int value = chance(85) ? 3 + dice.nextInt(shortest - 2) : pick(0, 6);
        int dots = chance(80) ? 0 : pick(0, 2);
        int v = chance(2) ? pick(0, 1) : voice;
        if (chance(18)) {
            due(run, "pause(" + v + ", " + value + ", " + dots + ")", x.pause(v, value, dots), m.pause(v, value, dots));
            return;
        }
        int p = place();
        int number = m.note(p, v, value, dots);
        due(run, "note(" + p + ", " + v + ", " + value + ", " + dots + ")", x.note(p, v, value, dots), number);
        for (int i = 0; i < 4 && chance(15); i++) {
            int q = place();
            due(run, "also(" + number + ", " + q + ")", x.also(number, q), m.also(number, q));
        }
    }

    private static int someEvent() {
        return pick(0, Math.max(0, m.count(0) - 1));
    }

    private static int someBeam() {
        return pick(0, Math.max(0, m.count(1) - 1));
    }

    private static void over(String run, boolean rests) {
        due(run, "over(" + rests + ")", x.over(rests), m.over(rests));
    }

    private static void joinAll(String run) {
        for (int i = 0; i < m.count(0) && calls < 400; i++) {
            due(run, "mark(" + i + ", 2)", x.mark(i, 2), m.mark(i, 2));
        }
    }

    private static void change(String run) {
        int e = someEvent();
        switch (dice.nextInt(7)) {
            case 0: {
                int what = pick(0, 2);
                due(run, "mark(" + e + ", " + what + ")", x.mark(e, what), m.mark(e, what));
                break;
            }
            case 1:
            case 2: {
                int s = chance(70) ? 1 : pick(0, 1);
                due(run, "staff(" + e + ", " + s + ")", x.staff(e, s), m.staff(e, s));
                break;
            }
            case 3: {
                int l = pick(2, 4);
                boolean is = chance(75);
                due(run, "broken(" + e + ", " + l + ", " + is + ")", x.broken(e, l, is), m.broken(e, l, is));
                break;
            }
            case 4: {
                int p = place();
                due(run, "also(" + e + ", " + p + ")", x.also(e, p), m.also(e, p));
                break;
            }
            case 5:
                over(run, chance(70));
                break;
            default:
                if (chance(30)) {
                    meter(run);
                } else {
                    come(run, chance(20) ? 1 : 0, 6);
                }
        }
    }

    private static void group(String run) {
        due(run, "group()", x.group(), m.group());
        beamsSeen += m.count(1);
        openSeen += m.count(2);
        for (int i = 0; i < m.count(1); i++) {
            betweenSeen += m.beam(i, 2) == 0 ? 1 : 0;
            fullSeen += m.beam(i, 0) == 16 ? 1 : 0;
            flatSeen += m.beam(i, 6);
        }
        for (int i = 0; i < m.count(0); i++) {
            int h = m.rest(i);
            restsMoved += h >= -100 && h != 0 && Math.abs(h) != 8 ? 1 : 0;
        }
    }

    private static void look(String run) {
        int e = someEvent();
        int b = someBeam();
        switch (dice.nextInt(13)) {
            case 0: {
                int what = pick(0, 7);
                due(run, "beam(" + b + ", " + what + ")", x.beam(b, what), m.beam(b, what));
                break;
            }
            case 1: {
                int k = pick(0, 16);
                due(run, "member(" + b + ", " + k + ")", x.member(b, k), m.member(b, k));
                break;
            }
            case 2:
                due(run, "badness(" + b + ")", x.badness(b), m.badness(b));
                break;
            case 3: {
                int f = chance(80) ? m.beam(b, 3) + dice.nextInt(9) - 4 : pick(-200, 200);
                int s = pick(-6, 6);
                due(run, "other(" + b + ", " + f + ", " + s + ")", x.other(b, f, s), m.other(b, f, s));
                break;
            }
            case 4:
            case 5: {
                int what = pick(0, 4);
                due(run, "stem(" + e + ", " + what + ")", x.stem(e, what), m.stem(e, what));
                break;
            }
            case 6:
            case 7: {
                int l = pick(1, 4);
                due(run, "level(" + e + ", " + l + ")", x.level(e, l), m.level(e, l));
                break;
            }
            case 8: {
                int way = pick(0, 2);
                due(run, "feather(" + b + ", " + way + ")", x.feather(b, way), m.feather(b, way));
                break;
            }
            case 9: {
                int k = pick(0, Math.max(0, m.beam(b, 0)));
                int l = pick(0, 4);
                due(run, "lane(" + b + ", " + k + ", " + l + ")", x.lane(b, k, l), m.lane(b, k, l));
                break;
            }
            case 10:
                due(run, "rest(" + e + ")", x.rest(e), m.rest(e));
                break;
            case 11: {
                int n = pick(-1, 5);
                due(run, "share(" + b + ", " + n + ")", share(b, n), m.share(b, n));
                break;
            }
            default: {
                int what = pick(0, 6);
                due(run, "event(" + e + ", " + what + ")", x.event(e, what), m.event(e, what));
                due(run, "count(" + what + ")", x.count(what), m.count(what));
            }
        }
    }

    private static long share(int b, int n) {
        try {
            return x.share(b, n);
        } catch (ArithmeticException e) {
            return Long.MIN_VALUE;
        }
    }
}
