import java.io.IOException;
import java.nio.file.Files;
import java.nio.file.Path;
import java.util.ArrayList;
import java.util.List;
import java.util.regex.Matcher;
import java.util.regex.Pattern;

/** The calls that README.md shows, answered as it shows them; run from the project's folder, where README.md lies. */
public final class ReadmeTest {
    private static final Pattern SHOWN = Pattern.compile("(x\\.\\w+\\(.*\\));\\s+// (-?\\w+)(: .+)?");

    /** Call and answer, as they should stand in README.md, one behind the other. */
    private static final List<String> due = new ArrayList<>();

    public static void main(String[] args) throws IOException {
        StemBeams x = new StemBeams();
        events(x);
        upperBeam(x);
        lowerBeam(x);
        joined(x);
        refusals(x);
        readme();
        Check.end();
    }

    private static void call(String call, long got, long answer) {
        answered(call, got, answer, Long.toString(answer));
    }

    private static void refused(String call, int got, String name) {
        int answer = switch (name) {
            case "NONE" -> StemBeams.NONE;
            case "UNKNOWN" -> StemBeams.UNKNOWN;
            case "OUTSIDE" -> StemBeams.OUTSIDE;
            case "STATE" -> StemBeams.STATE;
            case "ROOM" -> StemBeams.ROOM;
            default -> throw new IllegalArgumentException(name);
        };
        answered(call, got, answer, name);
    }

    private static void answered(String call, long got, long answer, String told) {
        Check.same(call, got, answer);
        due.add("x." + call + " // " + told);
    }

    private static void events(StemBeams x) {
        Check.about("promises 1 to 10, README.md", "the METER, the events, group()");
        call("meter(4, 4, 0)", x.meter(4, 4, 0), 4);
        call("over(true)", x.over(true), 0);
        call("note(-3, 0, 3, 0)", x.note(-3, 0, 3, 0), 0);
        call("pause(0, 4, 0)", x.pause(0, 4, 0), 1);
        call("note(-4, 0, 4, 0)", x.note(-4, 0, 4, 0), 2);
        call("note(1, 0, 3, 0)", x.note(1, 0, 3, 0), 3);
        call("also(3, 3)", x.also(3, 3), 2);
        call("note(5, 0, 3, 0)", x.note(5, 0, 3, 0), 4);
        call("note(-2, 0, 2, 0)", x.note(-2, 0, 2, 0), 5);
        call("group()", x.group(), 2);
    }

    private static void upperBeam(StemBeams x) {
        Check.about("promises 11 to 20, README.md", "a beam that goes up, with a REST within");
        call("beam(0, 0)", x.beam(0, 0), 2);
        call("member(0, 0)", x.member(0, 0), 0);
        call("member(0, 1)", x.member(0, 1), 2);
        call("beam(0, 2)", x.beam(0, 2), 1);
        call("beam(0, 3)", x.beam(0, 3), 8);
        call("beam(0, 4)", x.beam(0, 4), -1);
        call("badness(0)", x.badness(0), 1);
        call("stem(2, 1)", x.stem(2, 1), 7);
        call("stem(2, 2)", x.stem(2, 2), 15);
        call("level(2, 1)", x.level(2, 1), 1);
        call("level(2, 2)", x.level(2, 2), 4);
        call("share(0, 1)", x.share(0, 1), 14);
        call("lane(0, 0, 2)", x.lane(0, 0, 2), 5);
        call("rest(1)", x.rest(1), -4);
        call("feather(0, 1)", x.feather(0, 1), 0);
        call("lane(0, 0, 2)", x.lane(0, 0, 2), 8);
        call("rest(1)", x.rest(1), 0);
    }

    private static void lowerBeam(StemBeams x) {
        Check.about("promises 11 to 15, README.md", "a beam that goes down, and a note alone");
        call("beam(1, 2)", x.beam(1, 2), -1);
        call("beam(1, 3)", x.beam(1, 3), -9);
        call("beam(1, 4)", x.beam(1, 4), 4);
        call("badness(1)", x.badness(1), 10);
        call("other(1, -11, 4)", x.other(1, -11, 4), 10);
        call("other(1, 0, 0)", x.other(1, 0, 0), -1);
        call("stem(5, 0)", x.stem(5, 0), 1);
        call("stem(5, 2)", x.stem(5, 2), 14);
        refused("stem(5, 4)", x.stem(5, 4), "NONE");
    }

    private static void joined(StemBeams x) {
        Check.about("promises 7, 10, 21 and 22, README.md", "events, counts, and beams made anew");
        call("event(5, 0)", x.event(5, 0), 128);
        call("event(5, 5)", x.event(5, 5), 2);
        call("count(5)", x.count(5), 192);
        call("mark(3, 2)", x.mark(3, 2), 0);
        call("count(1)", x.count(1), 0);
        call("group()", x.group(), 1);
        call("beam(0, 0)", x.beam(0, 0), 4);
    }

    private static void refusals(StemBeams x) {
        Check.about("Terms, README.md", "what the refusals mean");
        refused("beam(1, 0)", x.beam(1, 0), "UNKNOWN");
        refused("beam(0, 8)", x.beam(0, 8), "OUTSIDE");
        refused("beam(1, 8)", x.beam(1, 8), "UNKNOWN");
        refused("note(0, 2, 3, 0)", x.note(0, 2, 3, 0), "OUTSIDE");
        refused("note(0, 0, 1, 0)", x.note(0, 0, 1, 0), "STATE");
        refused("meter(3, 4, 0)", x.meter(3, 4, 0), "STATE");
        refused("also(1, 0)", x.also(1, 0), "STATE");
        refused("also(3, 3)", x.also(3, 3), "STATE");
        refused("rest(0)", x.rest(0), "STATE");
        refused("member(0, 4)", x.member(0, 4), "NONE");
        call("badness(1)", x.badness(1), -1);
        Check.throwsArithmetic(x, 0, 3);
        due.add("x.share(0, 3) // ArithmeticException");
        call("count(1)", x.count(1), 1);
        call("also(3, 5)", x.also(3, 5), 3);
        call("also(3, 6)", x.also(3, 6), 4);
        refused("also(3, 7)", x.also(3, 7), "ROOM");
        call("clear()", x.clear(), 6);
    }

    private static void readme() throws IOException {
        Check.about("README.md", "it shows these calls, in this order, with these answers");
        List<String> shown = new ArrayList<>();
        boolean inJava = false;
        for (String line : Files.readAllLines(Path.of("README.md"))) {
            if (line.startsWith("```")) {
                inJava = line.equals("```java");
            } else if (inJava && line.contains("x.")) {
                Matcher m = SHOWN.matcher(line);
                Check.isTrue("a call with its answer: " + line, m.matches());
                shown.add(m.matches() ? m.group(1) + " // " + m.group(2) : line);
            }
        }
        Check.same("how many calls", shown.size(), due.size());
        for (int i = 0; i < shown.size() && i < due.size(); i++) {
            Check.isTrue("README.md shows " + shown.get(i) + ", the test has " + due.get(i), shown.get(i).equals(due.get(i)));
        }
    }
}
