/** Promise 9: over, sentence by sentence. */
public final class Promise09OverTest {
    public static void main(String[] args) {
        whetherTheyDid();
        takesBeamsAway();
        fromTheNextGroupOn();
        Check.end();
    }

    private static void whetherTheyDid() {
        Check.promise(9, "1 if they did, else 0");
        StemBeams x = new StemBeams();
        Check.same("not at first", x.over(false), 0);
        Check.same("not yet", x.over(true), 0);
        Check.same("now", x.over(true), 1);
        Check.same("still", x.over(false), 1);
        Check.same("no more", x.over(false), 0);
    }

    private static void takesBeamsAway() {
        Check.promise(9, "it takes all beams away");
        StemBeams x = Score.rich();
        x.over(true);
        Check.same("beams, though they did", x.count(1), 0);
        Check.same("beam 0", x.beam(0, 0), Score.UNKNOWN);
        Check.same("the beam of 0", x.stem(0, 4), Score.NONE);
        Check.same("the beam of 7", x.stem(7, 4), Score.NONE);
        x.group();
        x.over(false);
        Check.same("beams", x.count(1), 0);
    }

    private static void fromTheNextGroupOn() {
        Check.promise(9, "beams go over RESTS, or not");
        StemBeams x = new StemBeams();
        Score.add(x, 0, 4, 0, Score.REST, 0);
        x.over(true);
        Check.same("over", x.group(), 1);
        x.over(false);
        Check.same("not over", x.group(), 0);
        x.over(true);
        Check.same("over again", x.group(), 1);
    }
}
