/** Promise 1: a new object, sentence by sentence. */
public final class Promise01NewObjectTest {
    public static void main(String[] args) {
        noEvents();
        noBeams();
        theMeterAtFirst();
        notOverRests();
        nothingShared();
        Check.end();
    }

    private static void noEvents() {
        Check.promise(1, "no events");
        StemBeams x = new StemBeams();
        Check.same("count(0)", x.count(0), 0);
        Check.same("TICKS of VOICE 0", x.count(5), 0);
        Check.same("TICKS of VOICE 1", x.count(6), 0);
        Check.same("event 0", x.event(0, 0), Score.UNKNOWN);
        Check.same("stem of event 0", x.stem(0, 0), Score.UNKNOWN);
        Check.same("level of event 0", x.level(0, 1), Score.UNKNOWN);
        Check.same("rest of event 0", x.rest(0), Score.UNKNOWN);
        Check.same("also of event 0", x.also(0, 0), Score.UNKNOWN);
        Check.same("staff of event 0", x.staff(0, 0), Score.UNKNOWN);
        Check.same("mark of event 0", x.mark(0, 0), Score.UNKNOWN);
        Check.same("broken of event 0", x.broken(0, 2, true), Score.UNKNOWN);
        Check.same("clear()", x.clear(), 0);
    }

    private static void noBeams() {
        Check.promise(1, "no events, so no beams");
        StemBeams x = new StemBeams();
        Check.same("beams before group()", x.count(1), 0);
        Check.same("OPEN ones before group()", x.count(2), 0);
        Check.same("beam 0", x.beam(0, 0), Score.UNKNOWN);
        Check.same("member of beam 0", x.member(0, 0), Score.UNKNOWN);
        Check.same("badness of beam 0", x.badness(0), -1);
        Check.same("other of beam 0", x.other(0, 0, 0), -1);
        Check.same("feather of beam 0", x.feather(0, 0), Score.UNKNOWN);
        Check.same("lane of beam 0", x.lane(0, 0, 1), Score.UNKNOWN);
        Check.throwsArithmetic(x, 0, 1);
        Check.same("group() of nothing", x.group(), 0);
        Check.same("OPEN ones of nothing", x.count(2), 0);
    }

    private static void theMeterAtFirst() {
        Check.promise(1, "4 by 4 with 0 at first");
        StemBeams x = new StemBeams();
        Check.same("GROUPS", x.count(3), 4);
        Check.same("TICKS of a bar", x.count(4), 256);
        Check.same("a whole note and a dot", x.note(0, 0, 0, 1), Score.STATE);
        Check.same("a whole note", x.note(0, 0, 0, 0), 0);
    }

    private static void notOverRests() {
        Check.promise(1, "beams do not go over RESTS");
        StemBeams x = new StemBeams();
        Score.add(x, 0, 4, 0, Score.REST, 0);
        Check.same("beams", x.group(), 0);
        Check.same("over()", x.over(false), 0);
    }

    private static void nothingShared() {
        Check.promise(1, "a new object has nothing of one that is there");
        StemBeams old = Score.rich();
        StemBeams x = new StemBeams();
        Check.same("events", x.count(0), 0);
        x.meter(3, 8, 0);
        x.note(9, 1, 3, 0);
        Score.sameLook("the one that was there", old, Score.rich());
        Check.same("over() of the new one", x.over(true), 0);
    }
}
