/** Promises 1 to 9 and 21 to 23: the meter, events and what is told of them. */
public final class EventsTest {
    public static void main(String[] args) {
        newObject();
        usualGroups();
        toldGroups();
        whereGroupsLie();
        ticks();
        bars();
        heads();
        earlierStates();
        counts();
        clear();
        Check.end();
    }

    private static int[] eventRow(StemBeams x, int what) {
        int[] got = new int[x.count(0)];
        for (int i = 0; i < got.length; i++) {
            got[i] = x.event(i, what);
        }
        return got;
    }

    private static int[] counts(StemBeams x) {
        int[] got = new int[7];
        for (int what = 0; what < got.length; what++) {
            got[what] = x.count(what);
        }
        return got;
    }

    private static void newObject() {
        Check.promise(1, "no events; beams do not go over RESTS");
        StemBeams x = new StemBeams();
        Check.row("counts of a new object", counts(x), 0, 0, 0, 4, 256, 0, 0);
        Check.same("group() of a new object", x.group(), 0);
        x.note(0, 0, 4, 0);
        x.pause(0, 4, 0);
        x.note(0, 0, 4, 0);
        Check.same("beams do not go over RESTS at first", x.group(), 0);
        Check.same("over() at first", x.over(true), 0);
        Check.same("now they do", x.group(), 1);
    }

    private static void usualGroups() {
        Check.promise(2, "with 0 the GROUPS are told by UP and DOWN");
        // up, down, how many groups, ticks of a bar
        int[][] due = {
            {4, 4, 4, 256}, {3, 4, 3, 192}, {6, 4, 6, 384}, {3, 2, 3, 384}, {1, 2, 1, 128}, {16, 2, 16, 2048}, {1, 4, 1, 64},
            {3, 8, 1, 96}, {6, 8, 2, 192}, {9, 8, 3, 288}, {12, 16, 4, 192}, {15, 8, 5, 480}, {3, 16, 1, 48},
            {1, 8, 1, 32}, {1, 16, 1, 16}, {2, 8, 1, 64}, {4, 8, 2, 128}, {5, 8, 2, 160}, {7, 16, 3, 112}, {8, 8, 4, 256},
            {13, 8, 6, 416}, {16, 16, 8, 256}};
        StemBeams x = new StemBeams();
        for (int[] d : due) {
            String told = d[0] + " by " + d[1];
            Check.same("meter " + told, x.meter(d[0], d[1], 0), d[2]);
            Check.same("GROUPS of " + told, x.count(3), d[2]);
            Check.same("TICKS of " + told, x.count(4), d[3]);
        }
    }

    private static void toldGroups() {
        Check.promise(2, "GROUPS told by digits; OUTSIDE; STATE");
        StemBeams x = new StemBeams();
        Check.same("7 by 8, 223", x.meter(7, 8, 223), 3);
        Check.same("9 by 4, 9", x.meter(9, 4, 9), 1);
        Check.same("10 by 8, ten ones", x.meter(10, 8, 1111111111), 10);
        Check.same("16 by 16, 97", x.meter(16, 16, 97), 2);
        Check.same("1 by 2, 1", x.meter(1, 2, 1), 1);
        int[][] wrong = {
            {0, 4, 0}, {-1, 4, 0}, {17, 4, 0}, {4, 0, 0}, {4, 1, 0}, {4, 3, 0}, {4, 6, 0}, {4, 32, 0}, {4, -4, 0}, {4, 12, 0},
            {4, 4, -4}, {4, 4, 40}, {4, 4, 202}, {4, 4, 5}, {4, 4, 3}, {4, 4, 33}, {9, 4, 90}, {16, 2, Integer.MAX_VALUE},
            {16, 2, Integer.MIN_VALUE}, {Integer.MIN_VALUE, 4, 0}, {Integer.MAX_VALUE, 4, 0}, {4, Integer.MIN_VALUE, 0}};
        for (int[] w : wrong) {
            Check.same("meter(" + w[0] + ", " + w[1] + ", " + w[2] + ")", x.meter(w[0], w[1], w[2]), StemBeams.OUTSIDE);
        }
        Check.same("the meter stays", x.count(4), 128);
        x.pause(0, 2, 0);
        Check.same("a meter when there are events", x.meter(4, 4, 0), StemBeams.STATE);
        Check.same("OUTSIDE goes before STATE", x.meter(4, 5, 0), StemBeams.OUTSIDE);
        Check.same("the meter stays", x.count(4), 128);
    }

    private static void groupsOf(int up, int down, int groups, int... due) {
        StemBeams x = new StemBeams();
        x.meter(up, down, groups);
        int value = down == 2 ? 1 : down == 4 ? 2 : down == 8 ? 3 : 4;
        for (int i = 0; i < due.length; i++) {
            x.note(0, 0, value, 0);
        }
        Check.row("groups of " + up + " by " + down + ", " + groups, eventRow(x, 5), due);
    }

    private static void whereGroupsLie() {
        Check.promise(21, "the GROUP of the bar in which it begins");
        groupsOf(5, 8, 0, 0, 0, 1, 1, 1, 0, 0);
        groupsOf(7, 16, 0, 0, 0, 1, 1, 2, 2, 2, 0);
        groupsOf(6, 8, 0, 0, 0, 0, 1, 1, 1, 0);
        groupsOf(7, 8, 322, 0, 0, 0, 1, 1, 2, 2, 0);
        groupsOf(5, 8, 32, 0, 0, 0, 1, 1, 0);
        groupsOf(5, 8, 23, 0, 0, 1, 1, 1, 0);
        groupsOf(4, 4, 0, 0, 1, 2, 3, 0, 1);
        groupsOf(3, 2, 21, 0, 0, 1, 0);
        StemBeams x = new StemBeams();
        x.note(0, 0, 2, 1);
        x.note(0, 0, 5, 0);
        x.pause(0, 5, 0);
        x.note(0, 0, 4, 0);
        x.note(0, 0, 3, 0);
        Check.row("groups by ticks", eventRow(x, 5), 0, 1, 1, 1, 2);
    }

    private static void ticks() {
        Check.promise(21, "TICKS of VALUES and DOTS");
        int[][] due = {{256, 384, 448}, {128, 192, 224}, {64, 96, 112}, {32, 48, 56}, {16, 24, 28}, {8, 12, 14}, {4, 6, 7}};
        for (int value = 0; value <= 6; value++) {
            for (int dots = 0; dots <= 2; dots++) {
                StemBeams x = new StemBeams();
                x.meter(16, 2, 0);
                Check.same("note", x.note(0, 0, value, dots), 0);
                Check.same("rest", x.pause(0, value, dots), 1);
                Check.same("note of voice 1", x.note(0, 1, value, dots), 2);
                int t = due[value][dots];
                Check.row("TICKS of VALUE " + value + ", DOTS " + dots, eventRow(x, 1), t, t, t);
                Check.row("where they begin", eventRow(x, 0), 0, t, 0);
                Check.row("VOICES", eventRow(x, 2), 0, 0, 1);
                Check.row("HEADS", eventRow(x, 3), 1, 0, 1);
            }
        }
    }

    private static void bars() {
        Check.promise(3, "none may go beyond the end of its bar");
        StemBeams x = new StemBeams();
        x.meter(3, 4, 0);
        Check.same("a whole one is too long", x.note(0, 0, 0, 0), StemBeams.STATE);
        Check.same("and as a rest", x.pause(0, 0, 0), StemBeams.STATE);
        Check.same("a dotted half just fits", x.note(0, 0, 1, 1), 0);
        Check.same("a quarter of bar 1", x.pause(0, 2, 0), 1);
        Check.same("a dotted half goes beyond", x.note(0, 0, 1, 1), StemBeams.STATE);
        Check.same("a half just fits", x.note(0, 0, 1, 0), 2);
        Check.same("voice 1 has bars of its own", x.note(0, 1, 1, 1), 3);
        Check.same("bar 2", x.note(0, 0, 6, 2), 4);
        Check.row("bars", eventRow(x, 4), 0, 1, 1, 0, 2);
        Check.row("begins", eventRow(x, 0), 0, 192, 256, 0, 384);
        Check.same("TICKS of VOICE 0", x.count(5), 391);
        Check.same("TICKS of VOICE 1", x.count(6), 192);
    }

    private static void heads() {
        Check.promise(5, "1 to 4 HEADS, no two at one PLACE");
        StemBeams x = new StemBeams();
        x.note(12, 0, 3, 0);
        Check.same("two", x.also(0, -12), 2);
        Check.same("three", x.also(0, 0), 3);
        Check.same("four", x.also(0, 11), 4);
        Check.same("a fifth", x.also(0, 10), StemBeams.ROOM);
        Check.same("one that is there goes before ROOM", x.also(0, 11), StemBeams.STATE);
        Check.same("HEADS", x.event(0, 3), 4);
        x.note(-3, 0, 2, 0);
        Check.same("up, low as it is", x.stem(1, 0), 1);
        Check.same("one head", x.stem(1, 1), 8);
        x.also(1, 4);
        Check.same("down, for the sum is above 0", x.stem(1, 0), -1);
        Check.same("the lowest head is NEAR", x.stem(1, 1), -20);
        x.also(1, 2);
        Check.same("one within changes nothing", x.stem(1, 1), -20);
        x.also(1, -9);
        Check.same("up again", x.stem(1, 0), 1);
        Check.same("the highest head is NEAR", x.stem(1, 1), 22);
    }

    private static void earlierStates() {
        Check.promise(8, "what was so; likewise of promises 6, 7 and 9");
        StemBeams x = new StemBeams();
        x.note(0, 0, 4, 0);
        x.note(0, 0, 4, 0);
        Check.same("on STAFF 0 at first", x.staff(0, 1), 0);
        Check.same("on STAFF 1", x.staff(0, 1), 1);
        Check.same("back", x.staff(0, 0), 1);
        Check.same("there", x.staff(0, 0), 0);
        Check.same("not marked", x.mark(1, 1), 0);
        Check.same("CUT", x.mark(1, 2), 1);
        Check.same("JOINED", x.mark(1, 0), 2);
        Check.same("none of both", x.mark(1, 0), 0);
        for (int l = 2; l <= 4; l++) {
            Check.same("not BROKEN at " + l, x.broken(1, l, true), 0);
            Check.same("BROKEN at " + l, x.broken(1, l, true), 1);
        }
        Check.same("of another note", x.broken(0, 3, false), 0);
        Check.same("BROKEN at 3 no more", x.broken(1, 3, false), 1);
        Check.same("so it is", x.broken(1, 3, false), 0);
        Check.same("still at 2", x.broken(1, 2, false), 1);
        Check.same("still at 4", x.broken(1, 4, false), 1);
        Check.same("not over", x.over(false), 0);
        Check.same("not over yet", x.over(true), 0);
        Check.same("over", x.over(true), 1);
        Check.same("over still", x.over(false), 1);
        Check.same("no more", x.over(false), 0);
    }

    private static void counts() {
        Check.promise(22, "what is counted");
        StemBeams x = new StemBeams();
        x.meter(5, 8, 32);
        x.note(-12, 0, 3, 0);
        x.note(12, 0, 3, 0);
        x.note(0, 1, 4, 0);
        x.note(0, 1, 4, 1);
        x.staff(1, 1);
        x.group();
        Check.row("counts", counts(x), 4, 1, 1, 2, 160, 64, 40);
        x.mark(0, 0);
        Check.row("the OPEN ones are of the latest group()", counts(x), 4, 0, 1, 2, 160, 64, 40);
        x.staff(1, 0);
        x.group();
        Check.row("no OPEN one", counts(x), 4, 2, 0, 2, 160, 64, 40);
        Check.same("count(-1)", x.count(-1), StemBeams.OUTSIDE);
        Check.same("count(7)", x.count(7), StemBeams.OUTSIDE);
        Check.same("count of the least int", x.count(Integer.MIN_VALUE), StemBeams.OUTSIDE);
    }

    private static void clear() {
        Check.promise(23, "all is as at the beginning");
        StemBeams x = new StemBeams();
        x.meter(5, 8, 32);
        x.over(true);
        x.note(-12, 0, 4, 0);
        x.also(0, -11);
        x.note(12, 0, 4, 0);
        x.staff(1, 1);
        x.mark(1, 2);
        x.broken(1, 2, true);
        x.note(0, 1, 4, 0);
        x.note(0, 1, 4, 0);
        x.group();
        Check.same("clear() tells the events", x.clear(), 4);
        Check.row("counts after clear()", counts(x), 0, 0, 0, 4, 256, 0, 0);
        Check.same("no event", x.event(0, 0), StemBeams.UNKNOWN);
        Check.same("no beam", x.beam(0, 0), StemBeams.UNKNOWN);
        Check.same("clear() of nothing", x.clear(), 0);
        Check.same("over() as at first", x.over(false), 0);
        Check.same("numbers from 0 again", x.note(1, 0, 4, 0), 0);
        Check.same("and on", x.note(3, 0, 4, 0), 1);
        Check.same("one head", x.event(0, 3), 1);
        Check.same("its place is free", x.also(0, -11), 2);
        Check.same("one beam", x.group(), 1);
        Check.same("on one staff", x.beam(0, 2), 1);
        Check.same("not BROKEN", x.level(1, 2), 1);
        Check.same("not marked", x.mark(1, 0), 0);
        Check.same("not BROKEN at 2", x.broken(1, 2, false), 0);
        Check.same("on STAFF 0", x.staff(1, 0), 0);
        x.group();
        Check.same("a rest of voice 0 alone", x.rest(x.pause(0, 2, 0)), 0);
    }
}
