import java.util.ArrayList;
import java.util.List;

/**
 * The document told once more, as plainly as can be and without regard to cost: everything is found anew from the list
 * of events whenever it is asked. It shares no code with StemBeams, so that a slip in one shows against the other.
 */
final class PlainModel {
    static final int NONE = -1001, UNKNOWN = -1002, OUTSIDE = -1003, STATE = -1004, ROOM = -1005;

    static final class Ev {
        int number, voice, value, begin, ticks, staff, mark;
        List<Integer> places = new ArrayList<>();
        boolean[] broken = new boolean[5];

        boolean beamable() { return !places.isEmpty() && value >= 3; }
        int mid() { return staff == 1 ? -48 : 0; }
        int top() { return places.stream().mapToInt(p -> 2 * p - 48 * staff).max().getAsInt(); }
        int bottom() { return places.stream().mapToInt(p -> 2 * p - 48 * staff).min().getAsInt(); }
        int levels() { return value > 2 ? value - 2 : 0; }
    }

    static final class Bm {
        List<Ev> notes;
        int direction, f, slant, ideal, feather;
        boolean flat, found;
        long badness;
    }

    private List<Ev> events = new ArrayList<>();
    private List<Bm> beams = new ArrayList<>();
    private List<Integer> groupUnits = new ArrayList<>();
    private int up, down, open;
    private boolean over;

    PlainModel() { clear(); }

    int clear() {
        int was = events.size();
        events = new ArrayList<>();
        beams = new ArrayList<>();
        open = 0;
        over = false;
        up = 4;
        down = 4;
        groupUnits = new ArrayList<>(List.of(1, 1, 1, 1));
        return was;
    }

    int meter(int u, int d, int groups) {
        if (u < 1 || u > 16 || !(d == 2 || d == 4 || d == 8 || d == 16) || groups < 0) return OUTSIDE;
        List<Integer> units = new ArrayList<>();
        if (groups > 0) {
            int sum = 0;
            for (char c : Integer.toString(groups).toCharArray()) {
                if (c == '0') return OUTSIDE;
                units.add(c - '0');
                sum += c - '0';
            }
            if (sum != u) return OUTSIDE;
        } else if (d >= 8 && u % 3 == 0) {
            for (int i = 0; i < u / 3; i++) units.add(3);
        } else if (d >= 8) {
            if (u == 1) units.add(1);
            for (int i = 0; i < u / 2; i++) units.add(2);
            if (u % 2 == 1 && u > 1) units.set(units.size() - 1, 3);
        } else {
            for (int i = 0; i < u; i++) units.add(1);
        }
        if (!events.isEmpty()) return STATE;
        up = u;
        down = d;
        groupUnits = units;
        beams = new ArrayList<>();
        return units.size();
    }

    private int barTicks() { return up * 256 / down; }

    private int voiceTicks(int voice) {
        return events.stream().filter(e -> e.voice == voice).mapToInt(e -> e.ticks).sum();
    }

    private int groupOf(Ev e) {
        int offset = e.begin % barTicks();
        int sum = 0;
        for (int g = 0; g < groupUnits.size(); g++) {
            sum += groupUnits.get(g) * 256 / down;
            if (offset < sum) return g;
        }
        throw new IllegalStateException("no group");
    }

    private int come(Integer place, int voice, int value, int dots) {
        if (place != null && (place < -12 || place > 12)) return OUTSIDE;
        if (voice < 0 || voice > 1 || value < 0 || value > 6 || dots < 0 || dots > 2) return OUTSIDE;
        int length = 256;
        for (int i = 0; i < value; i++) length /= 2;
        int ticks = length + (dots == 1 ? length / 2 : dots == 2 ? 3 * length / 4 : 0);
        int begin = voiceTicks(voice);
        int barEnd = (begin / barTicks() + 1) * barTicks();
        if (begin + ticks > barEnd) return STATE;
        if (events.size() == 64) return ROOM;
        Ev e = new Ev();
        e.number = events.size();
        e.voice = voice;
        e.value = value;
        e.begin = begin;
        e.ticks = ticks;
        if (place != null) e.places.add(place);
        events.add(e);
        beams = new ArrayList<>();
        return e.number;
    }

    int note(int place, int voice, int value, int dots) { return come(place, voice, value, dots); }

    int pause(int voice, int value, int dots) { return come(null, voice, value, dots); }

    private Ev ev(int i) { return i < 0 || i >= events.size() ? null : events.get(i); }

    private Bm bm(int i) { return i < 0 || i >= beams.size() ? null : beams.get(i); }

    int also(int note, int place) {
        Ev e = ev(note);
        if (e == null) return UNKNOWN;
        if (place < -12 || place > 12) return OUTSIDE;
        if (e.places.isEmpty() || e.places.contains(place)) return STATE;
        if (e.places.size() == 4) return ROOM;
        e.places.add(place);
        beams = new ArrayList<>();
        return e.places.size();
    }

    int staff(int note, int s) {
        Ev e = ev(note);
        if (e == null) return UNKNOWN;
        if (s != 0 && s != 1) return OUTSIDE;
        if (e.places.isEmpty()) return STATE;
        int was = e.staff;
        e.staff = s;
        beams = new ArrayList<>();
        return was;
    }

    int mark(int note, int what) {
        Ev e = ev(note);
        if (e == null) return UNKNOWN;
        if (what < 0 || what > 2) return OUTSIDE;
        if (e.places.isEmpty()) return STATE;
        int was = e.mark;
        e.mark = what;
        beams = new ArrayList<>();
        return was;
    }

    int broken(int note, int level, boolean is) {
        Ev e = ev(note);
        if (e == null) return UNKNOWN;
        if (level < 2 || level > 4) return OUTSIDE;
        if (e.places.isEmpty()) return STATE;
        int was = e.broken[level] ? 1 : 0;
        e.broken[level] = is;
        beams = new ArrayList<>();
        return was;
    }

    int over(boolean rests) {
        int was = over ? 1 : 0;
        over = rests;
        beams = new ArrayList<>();
        return was;
    }

    int group() {
        beams = new ArrayList<>();
        open = 0;
        for (int v = 0; v < 2; v++) {
            List<Ev> row = new ArrayList<>();
            for (Ev e : events) {
                if (e.voice != v || !e.beamable()) continue;
                if (!row.isEmpty() && (!goesOn(e) || row.size() == 16)) {
                    make(row);
                    row = new ArrayList<>();
                }
                row.add(e);
            }
            make(row);
        }
        return beams.size();
    }

    private boolean goesOn(Ev e) {
        List<Ev> between = new ArrayList<>();
        Ev before = null;
        for (int i = e.number - 1; i >= 0 && before == null; i--) {
            Ev x = events.get(i);
            if (x.voice != e.voice) continue;
            if (x.places.isEmpty()) between.add(x);
            else before = x;
        }
        if (before == null || !before.beamable()) return false;
        boolean way = between.isEmpty() || over && between.stream().allMatch(x -> x.value >= 3);
        boolean sameGroup = before.begin / barTicks() == e.begin / barTicks() && groupOf(before) == groupOf(e);
        return way && (sameGroup || e.mark == 2) && e.mark != 1;
    }

    private boolean twoVoices() { return events.stream().anyMatch(e -> e.voice == 1); }

    private int alone(Ev e) {
        if (twoVoices()) return e.voice == 0 ? 1 : -1;
        return (e.top() - e.mid()) + (e.bottom() - e.mid()) < 0 ? 1 : -1;
    }

    private int direction(Bm b, Ev e) { return b.direction != 0 ? b.direction : e.staff == 0 ? -1 : 1; }

    private int near(Ev e, int direction) { return direction == 1 ? e.top() : e.bottom(); }

    private int least(Ev e) { return e.value == 5 ? 13 : e.value == 6 ? 16 : 10; }

    private int want(Ev e, int direction, boolean between) {
        int want = least(e) + 4;
        int toMiddle = direction == 1 ? e.mid() - near(e, 1) : near(e, -1) - e.mid();
        return !between && toMiddle > want ? toMiddle : want;
    }

    /** By halves, in whole numbers: floor(|a| / b + 1/2) with the sign of a. */
    private static int rounded(int a, int b) {
        int whole = Math.abs(a) / b;
        int left = Math.abs(a) % b;
        int r = 2 * left >= b ? whole + 1 : whole;
        return a < 0 ? -r : r;
    }

    private int height(Bm b, int f, int s, int k) { return f + rounded(s * k, b.notes.size() - 1); }

    private long bad(Bm b, int f, int s) {
        long sum = 8L * (s - b.ideal) * (s - b.ideal);
        int n = b.notes.size();
        for (int k = 0; k < n; k++) {
            Ev e = b.notes.get(k);
            int d = direction(b, e);
            int h = height(b, f, s, k);
            int length = d == 1 ? h - near(e, d) : near(e, d) - h;
            if (length < least(e)) return -1;
            int off = length - want(e, d, b.direction == 0);
            sum += (long) off * off;
        }
        if (b.direction != 0) {
            int mid = b.notes.get(0).mid();
            for (int h : new int[] {height(b, f, s, 0), height(b, f, s, n - 1)}) {
                int o = h - mid;
                if (o == -6 || o == -2 || o == 2 || o == 6) sum += 25;
            }
        }
        return sum;
    }

    private void make(List<Ev> row) {
        if (row.size() < 2) return;
        Bm b = new Bm();
        b.notes = row;
        boolean s0 = row.stream().anyMatch(e -> e.staff == 0);
        boolean s1 = row.stream().anyMatch(e -> e.staff == 1);
        if (s0 && s1) b.direction = 0;
        else if (twoVoices()) b.direction = row.get(0).voice == 0 ? 1 : -1;
        else {
            int mid = row.get(0).mid();
            int sum = row.stream().mapToInt(Ev::top).max().getAsInt() + row.stream().mapToInt(Ev::bottom).min().getAsInt() - 2 * mid;
            long ups = row.stream().filter(e -> alone(e) == 1).count();
            b.direction = sum < 0 ? 1 : sum > 0 ? -1 : 2 * ups > row.size() ? 1 : -1;
        }
        if (b.direction != 0) slope(b);
        List<Integer> heights = heights(b);
        for (int s : new int[] {0, 1, -1, 2, -2, 3, -3, 4, -4, 5, -5, 6, -6}) {
            if (b.flat && s != 0) continue;
            for (int f : heights) {
                long bad = bad(b, f, s);
                if (bad >= 0 && (!b.found || bad < b.badness)) {
                    b.found = true;
                    b.badness = bad;
                    b.f = f;
                    b.slant = s;
                }
            }
        }
        if (b.found) beams.add(b);
        else open++;
    }

    private void slope(Bm b) {
        int n = b.notes.size();
        int a = near(b.notes.get(0), b.direction);
        int z = near(b.notes.get(n - 1), b.direction);
        b.flat = a == z;
        for (Ev e : b.notes.subList(1, n - 1)) {
            int x = near(e, b.direction);
            if (b.direction == 1 ? x > Math.max(a, z) : x < Math.min(a, z)) b.flat = true;
        }
        b.ideal = b.flat ? 0 : Math.max(-6, Math.min(6, (z - a) / 2));
    }

    private List<Integer> heights(Bm b) {
        List<Integer> heights = new ArrayList<>();
        if (b.direction == 0) {
            for (int f = -48; f <= 0; f++) heights.add(f);
            return heights;
        }
        // The first height, coming from the heads, at which the level beam can lie.
        int just = b.direction == 1 ? -500 : 500;
        while (bad(b, just, 0) < 0) just += b.direction;
        for (int i = -24; i <= 12; i++) heights.add(just + b.direction * i);
        return heights;
    }

    int beam(int i, int what) {
        Bm b = bm(i);
        if (b == null) return UNKNOWN;
        if (what < 0 || what > 7) return OUTSIDE;
        return new int[] {b.notes.size(), greatest(b), b.direction, b.f, b.slant, b.ideal, b.flat ? 1 : 0, b.feather}[what];
    }

    private int greatest(Bm b) { return b.notes.stream().mapToInt(Ev::levels).max().getAsInt(); }

    int member(int i, int k) {
        Bm b = bm(i);
        if (b == null) return UNKNOWN;
        return k < 0 || k >= b.notes.size() ? NONE : b.notes.get(k).number;
    }

    long badness(int i) { return bm(i) == null ? -1 : bm(i).badness; }

    long other(int i, int f, int s) {
        return bm(i) == null || f < -200 || f > 200 || s < -6 || s > 6 ? -1 : bad(bm(i), f, s);
    }

    private int beamOf(Ev e) {
        for (int i = 0; i < beams.size(); i++) if (beams.get(i).notes.contains(e)) return i;
        return NONE;
    }

    int stem(int note, int what) {
        Ev e = ev(note);
        if (e == null) return UNKNOWN;
        if (what < 0 || what > 4) return OUTSIDE;
        if (e.places.isEmpty()) return STATE;
        if (what == 4) return beamOf(e);
        if (e.value == 0) return NONE;
        Bm b = bm(beamOf(e));
        int d = b == null ? alone(e) : direction(b, e);
        int end = b == null ? near(e, d) + d * want(e, d, false) : height(b, b.f, b.slant, b.notes.indexOf(e));
        return what == 0 ? d : what == 1 ? end : what == 2 ? Math.abs(end - near(e, d)) : b == null ? e.levels() : 0;
    }

    int level(int note, int l) {
        Ev e = ev(note);
        if (e == null) return UNKNOWN;
        if (l < 1 || l > 4) return OUTSIDE;
        if (e.places.isEmpty()) return STATE;
        Bm b = bm(beamOf(e));
        if (b == null || e.levels() < l) return 0;
        int k = b.notes.indexOf(e);
        int last = b.notes.size() - 1;
        boolean left = k > 0 && (l == 1 || b.notes.get(k - 1).levels() >= l && !e.broken[l]);
        boolean right = k < last && (l == 1 || b.notes.get(k + 1).levels() >= l && !b.notes.get(k + 1).broken[l]);
        if (left || right) return (left ? 1 : 0) | (right ? 2 : 0);
        if (k == 0) return 8;
        if (k == last) return 4;
        int length = new int[] {256, 128, 64, 32, 16, 8, 4}[e.value];
        return (e.begin - e.begin / barTicks() * barTicks()) % (2 * length) == 0 ? 8 : 4;
    }

    int feather(int i, int way) {
        Bm b = bm(i);
        if (b == null) return UNKNOWN;
        if (way < 0 || way > 2) return OUTSIDE;
        int was = b.feather;
        b.feather = way;
        return was;
    }

    int lane(int i, int k, int l) {
        Bm b = bm(i);
        if (b == null) return UNKNOWN;
        if (k < 0 || k >= b.notes.size() || l < 1 || l > greatest(b)) return OUTSIDE;
        int n = b.notes.size();
        int far = 3 * (l - 1);
        if (b.feather == 1) far = rounded(far * k, n - 1);
        if (b.feather == 2) far = rounded(far * (n - 1 - k), n - 1);
        int h = height(b, b.f, b.slant, k);
        return b.direction == -1 ? h + far : h - far;
    }

    int rest(int event) {
        Ev e = ev(event);
        if (e == null) return UNKNOWN;
        if (!e.places.isEmpty()) return STATE;
        int h = !twoVoices() ? 0 : e.voice == 0 ? 8 : -8;
        for (int i = 0; i < beams.size(); i++) {
            Bm b = beams.get(i);
            if (b.direction == 0 || b.notes.get(0).voice != e.voice) continue;
            for (int k = 0; k + 1 < b.notes.size(); k++) {
                if (b.notes.get(k).begin < e.begin && e.begin < b.notes.get(k + 1).begin) {
                    int lane = lane(i, k, greatest(b));
                    int away = b.direction == 1 ? lane - h : h - lane;
                    if (away >= 6) return h;
                    h = lane - 6 * b.direction;
                    while (h % 4 != 0) h -= b.direction;
                    return h;
                }
            }
        }
        return h;
    }

    /** Long.MIN_VALUE stands for the exception. */
    long share(int i, int n) {
        Bm b = bm(i);
        long sum = 0;
        long many = 0;
        for (Ev e : b == null ? List.<Ev>of() : b.notes) {
            if (e.levels() >= n) {
                sum += stem(e.number, 2);
                many++;
            }
        }
        return many == 0 ? Long.MIN_VALUE : sum / many;
    }

    int event(int i, int what) {
        Ev e = ev(i);
        if (e == null) return UNKNOWN;
        if (what < 0 || what > 5) return OUTSIDE;
        return new int[] {e.begin, e.ticks, e.voice, e.places.size(), e.begin / barTicks(), groupOf(e)}[what];
    }

    int count(int what) {
        if (what < 0 || what > 6) return OUTSIDE;
        return new int[] {events.size(), beams.size(), open, groupUnits.size(), barTicks(), voiceTicks(0), voiceTicks(1)}[what];
    }
}
