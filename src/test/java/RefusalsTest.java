/** Wrong inputs of promises 2 to 21 and their order; what is refused changes nothing, what is not takes beams away. */
public final class RefusalsTest {
    private static final int UNKNOWN = StemBeams.UNKNOWN, OUTSIDE = StemBeams.OUTSIDE, STATE = StemBeams.STATE, ROOM = StemBeams.ROOM;
    private static final int LOW = Integer.MIN_VALUE, HIGH = Integer.MAX_VALUE;

    public static void main(String[] args) {
        notesAndPauses();
        room();
        aboutNotes();
        aboutBeams();
        aboutEvents();
        refusedKeepsBeams();
        acceptedTakesBeamsAway();
        beforeAnyEvent();
        Check.end();
    }

    /** Note 0 and 1 in a beam, REST 2, a whole note 3 in the next bar, a rest up to there. */
    private static StemBeams small() {
        StemBeams x = new StemBeams();
        x.note(0, 0, 3, 0);
        x.note(2, 0, 3, 0);
        x.pause(0, 1, 1);
        x.note(0, 0, 0, 0);
        x.group();
        return x;
    }

    private static void notesAndPauses() {
        Check.promise(3, "OUTSIDE, STATE; likewise of promise 4");
        StemBeams x = small();
        int[][] wrong = {{-13, 0, 3, 0}, {13, 0, 3, 0}, {0, -1, 3, 0}, {0, 2, 3, 0}, {0, 0, -1, 0}, {0, 0, 7, 0}, {0, 0, 3, -1},
            {0, 0, 3, 3}, {LOW, 0, 3, 0}, {HIGH, 0, 3, 0}, {0, LOW, 3, 0}, {0, HIGH, 3, 0}, {0, 0, LOW, 0}, {0, 0, HIGH, 0},
            {0, 0, 3, LOW}, {0, 0, 3, HIGH}};
        for (int[] w : wrong) {
            String told = w[0] + ", " + w[1] + ", " + w[2] + ", " + w[3];
            Check.same("note(" + told + ")", x.note(w[0], w[1], w[2], w[3]), OUTSIDE);
            if (w[0] == 0) {
                Check.same("pause of " + told, x.pause(w[1], w[2], w[3]), OUTSIDE);
            }
        }
        Check.same("OUTSIDE goes before STATE", x.note(13, 0, 0, 2), OUTSIDE);
        Check.same("beyond the bar", x.note(12, 0, 0, 2), STATE);
        Check.same("a rest beyond the bar", x.pause(0, 0, 1), STATE);
        Check.same("no event has come", x.count(0), 4);
        Check.same("nor any TICK", x.count(5), 512);
        Check.same("the edges are inside", x.note(-12, 1, 6, 2), 4);
        Check.same("the edges are inside", x.note(12, 0, 0, 0), 5);
    }

    private static void room() {
        Check.promise(3, "ROOM; likewise of promise 4");
        StemBeams x = new StemBeams();
        for (int i = 0; i < 32; i++) {
            Check.same("note", x.note(0, 0, 6, 0), 2 * i);
            Check.same("pause", x.pause(1, 6, 0), 2 * i + 1);
        }
        int was = x.group();
        Check.same("a 65th note", x.note(0, 0, 6, 0), ROOM);
        Check.same("a 65th rest", x.pause(1, 6, 0), ROOM);
        Check.same("STATE goes before ROOM", x.note(0, 0, 0, 0), STATE);
        Check.same("STATE goes before ROOM", x.pause(0, 0, 0), STATE);
        Check.same("OUTSIDE goes before ROOM", x.note(0, 0, 7, 0), OUTSIDE);
        Check.same("OUTSIDE goes before ROOM", x.pause(0, 6, 3), OUTSIDE);
        Check.same("64 events", x.count(0), 64);
        Check.same("TICKS of VOICE 0", x.count(5), 128);
        Check.same("TICKS of VOICE 1", x.count(6), 128);
        Check.same("the beams are there", x.count(1), was);
        Check.same("clear()", x.clear(), 64);
        Check.same("room again", x.note(0, 0, 6, 0), 0);
    }

    /** The calls about a note that take one number more. */
    private static int call(StemBeams x, int which, int note, int more) {
        switch (which) {
            case 0: return x.also(note, more);
            case 1: return x.staff(note, more);
            case 2: return x.mark(note, more);
            case 3: return x.broken(note, more, true);
            case 4: return x.stem(note, more);
            default: return x.level(note, more);
        }
    }

    private static void aboutNotes() {
        Check.promise(5, "UNKNOWN, OUTSIDE, STATE; likewise of promises 6, 7, 8, 15 and 16");
        String[] names = {"also", "staff", "mark", "broken", "stem", "level"};
        int[][] bounds = {{-12, 12}, {0, 1}, {0, 2}, {2, 4}, {0, 4}, {1, 4}};
        StemBeams x = small();
        for (int which = 0; which < names.length; which++) {
            int low = bounds[which][0];
            int high = bounds[which][1];
            for (int number : new int[] {-1, 4, 64, LOW, HIGH, StemBeams.NONE}) {
                Check.same(names[which] + " of no event", call(x, which, number, low), UNKNOWN);
                Check.same(names[which] + ": UNKNOWN goes before OUTSIDE", call(x, which, number, high + 1), UNKNOWN);
            }
            for (int more : new int[] {low - 1, high + 1, LOW, HIGH}) {
                Check.same(names[which] + " of " + more, call(x, which, 0, more), OUTSIDE);
                Check.same(names[which] + ": OUTSIDE goes before STATE", call(x, which, 2, more), OUTSIDE);
            }
            for (int more = low; more <= high; more++) {
                Check.same(names[which] + " of a REST", call(x, which, 2, more), STATE);
            }
        }
        Check.same("a HEAD is there", x.also(0, 0), STATE);
        Check.same("the beam is there", x.count(1), 1);
        for (int which = 0; which < names.length; which++) {
            for (int more = bounds[which][0]; more <= bounds[which][1]; more++) {
                StemBeams fresh = small();
                int answer = call(fresh, which, 1, more);
                boolean headIsThere = which == 0 && more == 2;
                Check.same(names[which] + " of " + more + " is refused", answer < -1000 ? answer : 0, headIsThere ? STATE : 0);
            }
        }
    }

    private static void aboutBeams() {
        Check.promise(11, "UNKNOWN, OUTSIDE; likewise of promises 12, 13, 14, 17, 18 and 20");
        StemBeams x = small();
        for (int b : new int[] {-1, 1, 32, 33, 64, LOW, HIGH}) {
            Check.same("beam", x.beam(b, 0), UNKNOWN);
            Check.same("beam: UNKNOWN goes before OUTSIDE", x.beam(b, 8), UNKNOWN);
            Check.same("member", x.member(b, 0), UNKNOWN);
            Check.same("member: UNKNOWN goes before NONE", x.member(b, 9), UNKNOWN);
            Check.same("feather", x.feather(b, 0), UNKNOWN);
            Check.same("feather: UNKNOWN goes before OUTSIDE", x.feather(b, 3), UNKNOWN);
            Check.same("lane", x.lane(b, 0, 1), UNKNOWN);
            Check.same("lane: UNKNOWN goes before OUTSIDE", x.lane(b, 2, 2), UNKNOWN);
            Check.same("badness", x.badness(b), -1);
            Check.same("other", x.other(b, -20, 0), -1);
            Check.throwsArithmetic(x, b, 0);
        }
        for (int what : new int[] {-1, 8, LOW, HIGH}) {
            Check.same("beam(0, " + what + ")", x.beam(0, what), OUTSIDE);
            Check.same("feather(0, " + what + ")", x.feather(0, what), OUTSIDE);
            Check.same("lane(0, " + what + ", 1)", x.lane(0, what, 1), OUTSIDE);
            Check.same("lane(0, 0, " + what + ")", x.lane(0, 0, what), OUTSIDE);
            Check.same("member(0, " + what + ")", x.member(0, what), StemBeams.NONE);
        }
        Check.same("lane behind the last note", x.lane(0, 2, 1), OUTSIDE);
        Check.same("LEVEL 0", x.lane(0, 0, 0), OUTSIDE);
        Check.same("f far off", x.other(0, LOW, 0), -1);
        Check.same("f far off", x.other(0, HIGH, 0), -1);
        Check.same("SLANT far off", x.other(0, -20, LOW), -1);
        Check.same("SLANT far off", x.other(0, -20, HIGH), -1);
    }

    private static void aboutEvents() {
        Check.promise(21, "UNKNOWN, OUTSIDE; likewise of promise 19");
        StemBeams x = small();
        for (int e : new int[] {-1, 4, 64, LOW, HIGH}) {
            Check.same("event of no event", x.event(e, 0), UNKNOWN);
            Check.same("event: UNKNOWN goes before OUTSIDE", x.event(e, 6), UNKNOWN);
            Check.same("rest of no event", x.rest(e), UNKNOWN);
        }
        for (int what : new int[] {-1, 6, LOW, HIGH}) {
            Check.same("event(0, " + what + ")", x.event(0, what), OUTSIDE);
        }
        Check.same("rest of a NOTE", x.rest(0), STATE);
        Check.same("rest of a REST", x.rest(2), 0);
    }

    private static void refusedKeepsBeams() {
        Check.promise(3, "a refused call takes no beams away; likewise of promises 2 and 4 to 8");
        StemBeams x = small();
        x.meter(4, 4, 0);
        x.meter(0, 4, 0);
        x.note(0, 0, 0, 2);
        x.note(13, 0, 3, 0);
        x.pause(0, 0, 1);
        x.pause(2, 3, 0);
        x.also(0, 0);
        x.also(2, 1);
        x.also(9, 1);
        x.staff(0, 2);
        x.staff(2, 0);
        x.mark(0, 3);
        x.mark(2, 0);
        x.broken(0, 1, true);
        x.broken(2, 2, true);
        Check.same("one beam still", x.count(1), 1);
        Check.same("the notes have it", x.stem(1, 4), 0);
        x.feather(0, 2);
        x.other(0, 3, 3);
        x.stem(3, 2);
        x.rest(2);
        x.level(0, 1);
        Check.same("looking and feathering keep it", x.count(1), 1);
        for (int i = 1; i < 4; i++) {
            x.also(1, i + 2);
        }
        x.group();
        Check.same("ROOM", x.also(1, 12), ROOM);
        Check.same("a HEAD without room keeps it", x.count(1), 1);
    }

    private static void taken(String what, StemBeams x) {
        Check.same(what + " takes all beams away", x.count(1), 0);
        Check.same(what + ": no beam", x.beam(0, 0), UNKNOWN);
        Check.same(what + ": a note alone", x.stem(0, 4), StemBeams.NONE);
        Check.same(what + ": its flag", x.stem(0, 3), 1);
        Check.same(what + ": no LEVEL", x.level(1, 1), 0);
        Check.same(what + ": badness", x.badness(0), -1);
        x.group();
        Check.isTrue(what + ": they come again", x.count(1) > 0);
    }

    private static void acceptedTakesBeamsAway() {
        Check.promise(3, "each event that comes and each call down to over() takes all beams away");
        StemBeams x = small();
        x.note(0, 0, 6, 0);
        taken("note", x);
        x.note(0, 1, 6, 0);
        taken("note of the other voice", x);
        x.pause(1, 6, 0);
        taken("pause", x);
        x.also(3, 5);
        taken("also", x);
        x.staff(3, 0);
        taken("staff, though it was so", x);
        x.mark(0, 0);
        taken("mark, though it was so", x);
        x.broken(0, 2, false);
        taken("broken, though it was so", x);
        x.over(false);
        taken("over, though it was so", x);
    }

    private static void beforeAnyEvent() {
        Check.promise(1, "no events");
        StemBeams x = new StemBeams();
        Check.same("also", x.also(0, 0), UNKNOWN);
        Check.same("staff", x.staff(0, 0), UNKNOWN);
        Check.same("mark", x.mark(0, 0), UNKNOWN);
        Check.same("broken", x.broken(0, 2, true), UNKNOWN);
        Check.same("beam", x.beam(0, 0), UNKNOWN);
        Check.same("member", x.member(0, 0), UNKNOWN);
        Check.same("badness", x.badness(0), -1);
        Check.same("other", x.other(0, 0, 0), -1);
        Check.same("stem", x.stem(0, 0), UNKNOWN);
        Check.same("level", x.level(0, 1), UNKNOWN);
        Check.same("feather", x.feather(0, 0), UNKNOWN);
        Check.same("lane", x.lane(0, 0, 1), UNKNOWN);
        Check.same("rest", x.rest(0), UNKNOWN);
        Check.same("event", x.event(0, 0), UNKNOWN);
        Check.throwsArithmetic(x, 0, 0);
    }
}
