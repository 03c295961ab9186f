/** Promise 23: clear, sentence by sentence. */
public final class Promise23ClearTest {
    public static void main(String[] args) {
        howMany();
        asNew();
        eventsAgain();
        roomAgain();
        twice();
        Check.end();
    }

    private static void howMany() {
        Check.promise(23, "how many events there were");
        Check.same("none", new StemBeams().clear(), 0);
        Check.same("8", Score.rich().clear(), 8);
        Check.same("64", Score.full().clear(), 64);
        StemBeams x = new StemBeams();
        x.pause(1, 2, 0);
        x.note(0, 0, 0, 1);
        Check.same("one, and a refused one", x.clear(), 1);
    }

    private static StemBeams changed() {
        StemBeams x = new StemBeams();
        x.meter(7, 8, 322);
        x.over(true);
        for (int i = 0; i < 6; i++) {
            x.note(12 - i, i % 2, 5, 0);
            x.also(i, -i);
            x.mark(i, 2);
            x.staff(i, i / 3);
            x.broken(i, 2, true);
            x.broken(i, 3, true);
        }
        x.group();
        x.feather(0, 2);
        return x;
    }

    private static void asNew() {
        Check.promise(23, "all is as at the beginning");
        StemBeams x = changed();
        x.clear();
        Score.sameLook("cleared", x, new StemBeams());
        x = Score.toStaff1(Score.of(3, -12, 12), 1);
        Check.same("OPEN", x.count(2), 1);
        x.clear();
        Score.sameLook("cleared with an OPEN one", x, new StemBeams());
        x = new StemBeams();
        x.meter(3, 8, 0);
        x.over(true);
        x.clear();
        Score.sameLook("cleared without events", x, new StemBeams());
    }

    /** Events that say nothing of STAFF, marks or BROKEN LEVELS. */
    private static void fill(StemBeams x) {
        for (int i = 0; i < 6; i++) {
            x.note(i - 3, 0, 5, 0);
        }
        x.group();
    }

    private static void eventsAgain() {
        Check.promise(23, "events that come then have nothing of those before");
        StemBeams x = changed();
        x.clear();
        Check.same("from 0", x.note(-3, 0, 5, 0), 0);
        x.clear();
        fill(x);
        StemBeams twin = new StemBeams();
        fill(twin);
        Score.sameLook("as in a new object", x, twin);
        x = changed();
        x.clear();
        for (int i = 0; i < 6; i++) {
            x.pause(0, 5, 0);
        }
        Check.same("RESTS have no HEADS", x.event(0, 3), 0);
        Check.same("nor is VOICE 1 there", x.rest(0), 0);
    }

    private static void roomAgain() {
        Check.promise(23, "there is room again");
        StemBeams x = Score.full();
        Check.same("ROOM", x.note(0, 1, 6, 0), Score.ROOM);
        x.clear();
        for (int i = 0; i < 64; i++) {
            Check.same("note", x.note(0, 0, 6, 0), i);
        }
        Check.same("ROOM again", x.note(0, 0, 6, 0), Score.ROOM);
        x.clear();
        x.note(0, 0, 2, 0);
        for (int place = 1; place <= 3; place++) {
            x.also(0, place);
        }
        Check.same("no room for a fifth HEAD", x.also(0, 4), Score.ROOM);
        x.clear();
        x.note(1, 0, 2, 0);
        Check.same("room for a second one", x.also(0, 0), 2);
    }

    private static void twice() {
        Check.promise(23, "as at the beginning there are none");
        StemBeams x = Score.rich();
        x.clear();
        Check.same("clear() again", x.clear(), 0);
        Check.same("group()", x.group(), 0);
    }
}
