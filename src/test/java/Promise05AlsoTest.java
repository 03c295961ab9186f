/** Promise 5: also, sentence by sentence. */
public final class Promise05AlsoTest {
    public static void main(String[] args) {
        howMany();
        unknown();
        placeBounds();
        ofARest();
        aHeadIsThere();
        room();
        order();
        whichHeadsCount();
        takesBeamsAway();
        Check.end();
    }

    private static void howMany() {
        Check.promise(5, "a HEAD more: how many the NOTE has");
        StemBeams x = new StemBeams();
        x.note(0, 0, 2, 0);
        x.note(0, 0, 2, 0);
        Check.same("the second", x.also(0, 1), 2);
        Check.same("the third", x.also(0, -1), 3);
        Check.same("of another NOTE", x.also(1, 1), 2);
        Check.same("the fourth", x.also(0, 2), 4);
        Check.same("HEADS", x.event(0, 3), 4);
        Check.same("HEADS of the other", x.event(1, 3), 2);
    }

    private static void unknown() {
        Check.promise(5, "UNKNOWN: no such event");
        for (int note : Score.NO_NUMBERS) {
            Score.refused("also(" + note + ", 5)", Score::rich, x -> x.also(note, 5), Score.UNKNOWN);
        }
        Score.refused("the one behind the last", Score::rich, x -> x.also(8, 5), Score.UNKNOWN);
        Check.same("the last", Score.rich().also(7, 5), 3);
        Check.same("the 64th", Score.full().also(63, 5), 2);
        Check.same("behind the 64th", Score.full().also(64, 5), Score.UNKNOWN);
    }

    private static void placeBounds() {
        Check.promise(5, "PLACE is -12 to 12");
        for (int place : new int[] {-13, 13, Score.LOW, Score.HIGH, 32 - 12, -32 + 12}) {
            Score.refused("PLACE " + place, Score::rich, x -> x.also(0, place), Score.OUTSIDE);
        }
        for (int place = -12; place <= 12; place++) {
            StemBeams x = new StemBeams();
            x.note(place == 0 ? 1 : 0, 0, 2, 0);
            Check.same("PLACE " + place, x.also(0, place), 2);
            Check.same("the HEAD is there", x.also(0, place), Score.STATE);
        }
    }

    private static void ofARest() {
        Check.promise(5, "STATE: a REST");
        Score.refused("also(1, 0)", Score::rich, x -> x.also(1, 0), Score.STATE);
        Score.refused("also(1, 12)", Score::rich, x -> x.also(1, 12), Score.STATE);
    }

    private static void aHeadIsThere() {
        Check.promise(5, "STATE: a HEAD is there");
        Score.refused("the first HEAD's PLACE", Score::rich, x -> x.also(0, -3), Score.STATE);
        Score.refused("the second HEAD's PLACE", Score::rich, x -> x.also(7, 3), Score.STATE);
        for (int place = -12; place <= 12; place++) {
            StemBeams x = new StemBeams();
            x.note(place, 0, 2, 0);
            Check.same("PLACE " + place, x.also(0, place), Score.STATE);
            Check.same("HEADS", x.event(0, 3), 1);
            Check.same("the one beside is free", x.also(0, place == 12 ? 11 : place + 1), 2);
        }
        StemBeams x = new StemBeams();
        x.note(4, 0, 2, 0);
        x.note(5, 0, 2, 0);
        Check.same("another NOTE's PLACE is free", x.also(0, 5), 2);
    }

    private static StemBeams chords() {
        StemBeams x = new StemBeams();
        x.note(0, 0, 3, 0);
        x.note(0, 0, 3, 0);
        x.also(0, 2);
        x.also(0, 4);
        x.also(0, 6);
        x.group();
        return x;
    }

    private static void room() {
        Check.promise(5, "ROOM: it has 4");
        Score.refused("a fifth above", Promise05AlsoTest::chords, x -> x.also(0, 12), Score.ROOM);
        Score.refused("a fifth below", Promise05AlsoTest::chords, x -> x.also(0, -12), Score.ROOM);
        Score.refused("a fifth within", Promise05AlsoTest::chords, x -> x.also(0, 3), Score.ROOM);
        StemBeams x = chords();
        Check.same("refused", x.also(0, 9), Score.ROOM);
        Check.same("so its PLACE is not taken", x.also(0, 9), Score.ROOM);
        Check.same("another NOTE has room", x.also(1, 9), 2);
    }

    private static void order() {
        Check.promise(5, "UNKNOWN, then OUTSIDE, then STATE, then ROOM");
        Score.refused("UNKNOWN before OUTSIDE", Score::rich, x -> x.also(8, 13), Score.UNKNOWN);
        Score.refused("OUTSIDE before STATE", Score::rich, x -> x.also(1, 13), Score.OUTSIDE);
        Score.refused("OUTSIDE before ROOM", Promise05AlsoTest::chords, x -> x.also(0, -13), Score.OUTSIDE);
        Score.refused("STATE before ROOM", Promise05AlsoTest::chords, x -> x.also(0, 6), Score.STATE);
    }

    private static void whichHeadsCount() {
        Check.promise(5, "a HEAD at PLACE p of STAFF s is at 2 p - 48 s");
        StemBeams x = new StemBeams();
        x.note(1, 0, 2, 0);
        Check.same("down from 2", x.stem(0, 1), -12);
        x.also(0, -1);
        Check.same("down from the lower one", x.stem(0, 1), -16);
        x.also(0, -2);
        Check.same("up from the highest one", x.stem(0, 1), 16);
        x.also(0, 0);
        Check.same("one within changes nothing", x.stem(0, 1), 16);
        x.staff(0, 1);
        Check.same("48 lower", x.stem(0, 1), -32);
    }

    private static void takesBeamsAway() {
        Check.promise(5, "it takes all beams away, if it is not refused");
        StemBeams x = Score.rich();
        x.also(0, -3);
        x.also(0, 13);
        x.also(1, 0);
        x.also(8, 0);
        Check.same("beams, refused", x.count(1), 3);
        x.also(7, 2);
        Check.same("beams", x.count(1), 0);
        Check.same("the beam of 0", x.stem(0, 4), Score.NONE);
        x = chords();
        x.also(0, 12);
        Check.same("beams, with ROOM", x.count(1), 1);
    }
}
