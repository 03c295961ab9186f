import java.util.ArrayList;
import java.util.List;
import java.util.function.Supplier;
import java.util.function.ToLongFunction;

/** Small scores that the tests of the promises start from, and all that can be seen of one. */
final class Score {
    static final int NONE = StemBeams.NONE, UNKNOWN = StemBeams.UNKNOWN, OUTSIDE = StemBeams.OUTSIDE,
        STATE = StemBeams.STATE, ROOM = StemBeams.ROOM;
    static final int LOW = Integer.MIN_VALUE, HIGH = Integer.MAX_VALUE;
    /** In a row of places: a REST. */
    static final int REST = 99;
    /** Numbers of events or beams that there never are. */
    static final int[] NO_NUMBERS = {-1, 64, 65, LOW, HIGH, NONE, UNKNOWN};

    private Score() {
    }

    /** One bar of 1152 TICKS that is one GROUP; beams go over RESTS. */
    static StemBeams wide() {
        StemBeams x = new StemBeams();
        x.meter(9, 2, 9);
        x.over(true);
        return x;
    }

    static void add(StemBeams x, int voice, int value, int... places) {
        for (int p : places) {
            if (p == REST) {
                x.pause(voice, value, 0);
            } else {
                x.note(p, voice, value, 0);
            }
        }
    }

    /** NOTES and RESTS of VOICE 0, all of one VALUE, in one beam as far as that may be; grouped. */
    static StemBeams of(int value, int... places) {
        StemBeams x = wide();
        add(x, 0, value, places);
        x.group();
        return x;
    }

    /** The same with events of VOICE 1, so that VOICE 0 goes up. */
    static StemBeams upper(int value, int... places) {
        StemBeams x = wide();
        add(x, 0, value, places);
        x.pause(1, 6, 0);
        x.group();
        return x;
    }

    /** The same for VOICE 1, which goes down. */
    static StemBeams lower(int value, int... places) {
        StemBeams x = wide();
        add(x, 1, value, places);
        x.group();
        return x;
    }

    /** The notes with these numbers go to STAFF 1; grouped anew. */
    static StemBeams toStaff1(StemBeams x, int... notes) {
        for (int n : notes) {
            x.staff(n, 1);
        }
        x.group();
        return x;
    }

    /**
     * Of everything something: beam 0 (notes 0 and 2, feathered, REST 1 within), beam 1 BETWEEN (3 and 4), beam 2 (5, 6, 7
     * of VOICE 1, a chord at its end, BROKEN at 2).
     */
    static StemBeams rich() {
        StemBeams x = new StemBeams();
        x.over(true);
        x.note(-3, 0, 3, 0);
        x.pause(0, 4, 0);
        x.note(-5, 0, 4, 0);
        x.note(4, 0, 3, 0);
        x.note(6, 0, 3, 0);
        x.note(0, 1, 4, 0);
        x.note(2, 1, 4, 0);
        x.note(1, 1, 4, 0);
        x.also(7, 3);
        x.staff(4, 1);
        x.mark(6, 2);
        x.broken(7, 2, true);
        x.group();
        x.feather(0, 1);
        return x;
    }

    /** 64 events, all NOTES of VALUE 6, those of VOICE 0 in beams; there is no room for a 65th. */
    static StemBeams full() {
        StemBeams x = new StemBeams();
        for (int i = 0; i < 63; i++) {
            x.note(i % 12, 0, 6, 0);
        }
        x.note(0, 1, 6, 0);
        x.group();
        return x;
    }

    /** A refused call answers what is due and leaves all as it was: its object looks like a twin that never got it. */
    static void refused(String what, Supplier<StemBeams> made, ToLongFunction<StemBeams> call, long due) {
        StemBeams x = made.get();
        StemBeams twin = made.get();
        Check.same(what, call.applyAsLong(x), due);
        sameLook(what + " leaves all as it was", x, twin);
    }

    static void sameLook(String what, StemBeams x, StemBeams twin) {
        List<String> got = look(x);
        List<String> due = look(twin);
        Check.same(what + ": how many answers", got.size(), due.size());
        for (int i = 0; i < got.size() && i < due.size(); i++) {
            if (!got.get(i).equals(due.get(i))) {
                Check.isTrue(what + ": " + got.get(i) + ", due is " + due.get(i), false);
            }
        }
    }

    /** All that can be seen of an object, in some 300 calls at most; the last of them take the beams away. */
    private static List<String> look(StemBeams x) {
        List<String> seen = new ArrayList<>();
        for (int what = 0; what <= 6; what++) {
            seen.add("count(" + what + ") " + x.count(what));
        }
        int events = x.count(0);
        int[] some = events <= 8 ? numbers(0, events) : numbers(events - 4, events);
        for (int e : some) {
            lookAtEvent(seen, x, e);
        }
        for (int b = 0; b < Math.min(3, x.count(1)); b++) {
            lookAtBeam(seen, x, b);
        }
        for (int e : some) {
            seen.add("staff of " + e + " " + x.staff(e, 0));
            seen.add("mark of " + e + " " + x.mark(e, 0));
            for (int l = 2; l <= 4; l++) {
                seen.add("broken of " + e + " at " + l + " " + x.broken(e, l, false));
            }
        }
        seen.add("over " + x.over(false));
        return seen;
    }

    private static int[] numbers(int from, int end) {
        int[] all = new int[end - from];
        for (int i = 0; i < all.length; i++) {
            all[i] = from + i;
        }
        return all;
    }

    private static void lookAtEvent(List<String> seen, StemBeams x, int e) {
        for (int what = 0; what <= 5; what++) {
            seen.add("event(" + e + ", " + what + ") " + x.event(e, what));
        }
        for (int what = 0; what <= 4; what++) {
            seen.add("stem(" + e + ", " + what + ") " + x.stem(e, what));
        }
        for (int l = 1; l <= 4; l++) {
            seen.add("level(" + e + ", " + l + ") " + x.level(e, l));
        }
        seen.add("rest(" + e + ") " + x.rest(e));
    }

    private static void lookAtBeam(List<String> seen, StemBeams x, int b) {
        for (int what = 0; what <= 7; what++) {
            seen.add("beam(" + b + ", " + what + ") " + x.beam(b, what));
        }
        seen.add("badness(" + b + ") " + x.badness(b));
        for (int k = 0; k < Math.min(3, x.beam(b, 0)); k++) {
            seen.add("member(" + b + ", " + k + ") " + x.member(b, k));
            seen.add("lane(" + b + ", " + k + ") " + x.lane(b, k, x.beam(b, 1)));
        }
    }
}
