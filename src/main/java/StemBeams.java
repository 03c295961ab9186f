/**
 * Stems and beams of two voices on two staves. The document's words in capitals (HEAD, PLACE, NEAR, WANT, LANE ..)
 * are used here as the document tells them.
 */
public final class StemBeams {
    public static final int NONE = -1001, UNKNOWN = -1002, OUTSIDE = -1003, STATE = -1004, ROOM = -1005;

    private static final int MOST_EVENTS = 64, MOST_HEADS = 4, MOST_IN_BEAM = 16, GREATEST_UP = 16;
    // Every beam takes two notes; one row more is there so that a row can be gathered behind the last beam.
    private static final int BEAM_ROWS = MOST_EVENTS / 2 + 1;
    private static final int FARTHEST_PLACE = 12, GREATEST_VALUE = 6, GREATEST_DOTS = 2, GREATEST_LEVEL = 4;
    private static final int WHOLE = 256, STAFF_GAP = 48, LANE_GAP = 3;
    private static final int UP = 1, DOWN = -1, BETWEEN = 0;
    private static final int CUT = 1, JOINED = 2;
    private static final int TO_LEFT = 1, TO_RIGHT = 2, STUB_LEFT = 4, STUB_RIGHT = 8;
    private static final int FEATHERED_RIGHT = 1, FEATHERED_LEFT = 2;
    private static final int STEEPEST = 6, FARTHEST_HEIGHT = 200;

    private final Bars bars = new Bars();
    private final Event[] events = new Event[MOST_EVENTS];
    private final Beam[] beams = new Beam[BEAM_ROWS];
    private final int[] voiceTicks = new int[2];
    private int eventCount, beamCount, openCount;
    private boolean overRests;

    public StemBeams() {
        for (int i = 0; i < events.length; i++) {
            events[i] = new Event();
        }
        Event blank = new Event();
        for (int i = 0; i < beams.length; i++) {
            beams[i] = new Beam(blank);
        }
    }

    public int meter(int up, int down, int groups) {
        if (!Bars.isMeter(up, down, groups)) {
            return OUTSIDE;
        }
        if (eventCount > 0) {
            return STATE;
        }
        bars.set(up, down, groups);
        return bars.groupCount;
    }

    public int note(int place, int voice, int value, int dots) {
        if (!isPlace(place) || !isTiming(voice, value, dots)) {
            return OUTSIDE;
        }
        int number = append(voice, value, dots);
        Event added = eventAt(number);
        if (added != null) {
            added.addHead(place);
        }
        return number;
    }

    public int pause(int voice, int value, int dots) {
        return isTiming(voice, value, dots) ? append(voice, value, dots) : OUTSIDE;
    }

    public int also(int note, int place) {
        Event e = eventAt(note);
        int refusal = refusalOf(e, isPlace(place));
        if (e == null || refusal != 0) {
            return refusal;
        }
        if (e.hasHead(place)) {
            return STATE;
        }
        if (e.heads >= MOST_HEADS) {
            return ROOM;
        }
        takeBeamsAway();
        e.addHead(place);
        return e.heads;
    }

    public int staff(int note, int s) {
        Event e = eventAt(note);
        int refusal = refusalOf(e, s >= 0 && s <= 1);
        if (e == null || refusal != 0) {
            return refusal;
        }
        takeBeamsAway();
        int was = e.onStaff;
        e.onStaff = s;
        return was;
    }

    public int mark(int note, int what) {
        Event e = eventAt(note);
        int refusal = refusalOf(e, what >= 0 && what <= JOINED);
        if (e == null || refusal != 0) {
            return refusal;
        }
        takeBeamsAway();
        int was = e.marking;
        e.marking = what;
        return was;
    }

    public int broken(int note, int level, boolean is) {
        Event e = eventAt(note);
        int refusal = refusalOf(e, level >= 2 && level <= GREATEST_LEVEL);
        if (e == null || refusal != 0) {
            return refusal;
        }
        takeBeamsAway();
        int was = e.isBroken(level) ? 1 : 0;
        e.setBroken(level, is);
        return was;
    }

    public int over(boolean rests) {
        takeBeamsAway();
        int was = overRests ? 1 : 0;
        overRests = rests;
        return was;
    }

    public int group() {
        takeBeamsAway();
        openCount = 0;
        for (int voice = 0; voice < voiceTicks.length; voice++) {
            groupVoice(voice);
        }
        return beamCount;
    }

    public int beam(int i, int what) {
        Beam b = beamAt(i);
        if (b == null) {
            return UNKNOWN;
        }
        switch (what) {
            case 0: return b.size;
            case 1: return b.greatestLevel();
            case 2: return b.way;
            case 3: return b.first;
            case 4: return b.slant;
            case 5: return b.ideal;
            case 6: return b.flat ? 1 : 0;
            case 7: return b.feathered;
            default: return OUTSIDE;
        }
    }

    public int member(int beam, int k) {
        Beam b = beamAt(beam);
        if (b == null) {
            return UNKNOWN;
        }
        return b.has(k) ? b.notes[k].number : NONE;
    }

    public long badness(int beam) {
        Beam b = beamAt(beam);
        return b == null ? -1 : b.bad;
    }

    public long other(int beam, int f, int s) {
        Beam b = beamAt(beam);
        boolean inside = f >= -FARTHEST_HEIGHT && f <= FARTHEST_HEIGHT && s >= -STEEPEST && s <= STEEPEST;
        return b == null || !inside ? -1 : b.badnessAt(f, s);
    }

    public int stem(int note, int what) {
        Event e = eventAt(note);
        int refusal = refusalOf(e, what >= 0 && what <= 4);
        if (e == null || refusal != 0) {
            return refusal;
        }
        if (what == 4) {
            return e.beamNumber;
        }
        if (e.value == 0) {
            return NONE;
        }
        Beam b = beamAt(e.beamNumber);
        if (b == null) {
            e.aim(e.wayAlone(isTwoVoiced()), false);
        }
        int end = b == null ? e.near + e.way * e.want : b.heightAt(e.inBeam);
        switch (what) {
            case 0: return e.way;
            case 1: return end;
            case 2: return e.lengthTo(end);
            default: return b == null ? e.levels() : 0;
        }
    }

    public int level(int note, int l) {
        Event e = eventAt(note);
        int refusal = refusalOf(e, l >= 1 && l <= GREATEST_LEVEL);
        if (e == null || refusal != 0) {
            return refusal;
        }
        Beam b = beamAt(e.beamNumber);
        if (b == null || e.levels() < l) {
            return 0;
        }
        int sides = b.sidesAt(e.inBeam, l);
        return sides != 0 ? sides : stubOf(e, b);
    }

    public int feather(int beam, int way) {
        Beam b = beamAt(beam);
        if (b == null) {
            return UNKNOWN;
        }
        if (way < 0 || way > FEATHERED_LEFT) {
            return OUTSIDE;
        }
        int was = b.feathered;
        b.feathered = way;
        return was;
    }

    public int lane(int beam, int k, int l) {
        Beam b = beamAt(beam);
        if (b == null) {
            return UNKNOWN;
        }
        if (!b.has(k) || l < 1 || l > b.greatestLevel()) {
            return OUTSIDE;
        }
        return b.laneAt(k, l);
    }

    public int rest(int event) {
        Event e = eventAt(event);
        if (e == null) {
            return UNKNOWN;
        }
        if (!e.isRest()) {
            return STATE;
        }
        int height = !isTwoVoiced() ? 0 : e.voice == 0 ? 8 : -8;
        Event before = noteBeside(e, -1);
        Event after = noteBeside(e, 1);
        if (before == null || after == null || before.beamNumber != after.beamNumber) {
            return height;
        }
        Beam around = beamAt(before.beamNumber);
        return around == null ? height : around.clearOf(height, before.inBeam);
    }

    public long share(int beam, int n) throws ArithmeticException {
        Beam b = beamAt(beam);
        if (b == null) {
            throw new ArithmeticException("no such beam");
        }
        int many = b.countWith(n);
        if (many <= 0) {
            throw new ArithmeticException("no note of the beam has so many levels");
        }
        return b.lengthsWith(n) / many;
    }

    public int event(int event, int what) {
        Event e = eventAt(event);
        if (e == null) {
            return UNKNOWN;
        }
        switch (what) {
            case 0: return e.begin;
            case 1: return e.ticks;
            case 2: return e.voice;
            case 3: return e.heads;
            case 4: return bars.barAt(e.begin);
            case 5: return bars.groupAt(e.begin);
            default: return OUTSIDE;
        }
    }

    public int count(int what) {
        switch (what) {
            case 0: return eventCount;
            case 1: return beamCount;
            case 2: return openCount;
            case 3: return bars.groupCount;
            case 4: return bars.ticks;
            case 5: return voiceTicks[0];
            case 6: return voiceTicks[1];
            default: return OUTSIDE;
        }
    }

    public int clear() {
        int was = eventCount;
        eventCount = 0;
        beamCount = 0;
        openCount = 0;
        overRests = false;
        voiceTicks[0] = 0;
        voiceTicks[1] = 0;
        bars.set(4, 4, 0);
        return was;
    }

    private static boolean isPlace(int place) {
        return place >= -FARTHEST_PLACE && place <= FARTHEST_PLACE;
    }

    private static boolean isTiming(int voice, int value, int dots) {
        return voice >= 0 && voice <= 1 && value >= 0 && value <= GREATEST_VALUE && dots >= 0 && dots <= GREATEST_DOTS;
    }

    /** ROUNDED a / b. */
    private static int rounded(int a, int b) {
        if (b <= 0) {
            return 0;
        }
        return a < 0 ? -((b - 2 * a) / (2 * b)) : (b + 2 * a) / (2 * b);
    }

    private Event eventAt(int number) {
        return number >= 0 && number < eventCount ? events[number] : null;
    }

    private Beam beamAt(int number) {
        return number >= 0 && number < beamCount ? beams[number] : null;
    }

    /** What a call about a NOTE answers before it does anything; 0 if it may go on. */
    private static int refusalOf(Event e, boolean inside) {
        if (e == null) {
            return UNKNOWN;
        }
        if (!inside) {
            return OUTSIDE;
        }
        return e.isRest() ? STATE : 0;
    }

    private boolean isTwoVoiced() {
        return voiceTicks[1] > 0;
    }

    /** Appends an event without HEADS: its number, or STATE, or ROOM. */
    private int append(int voice, int value, int dots) {
        if (voice < 0 || voice >= voiceTicks.length) {
            return OUTSIDE;
        }
        int begin = voiceTicks[voice];
        int ticks = Event.ticksOf(value, dots);
        if (bars.offsetAt(begin) + ticks > bars.ticks) {
            return STATE;
        }
        if (eventCount >= events.length) {
            return ROOM;
        }
        takeBeamsAway();
        Event added = events[eventCount];
        added.reset(eventCount, voice, value);
        added.begin = begin;
        added.ticks = ticks;
        voiceTicks[voice] = begin + ticks;
        return eventCount++;
    }

    private void takeBeamsAway() {
        for (int i = 0; i < beamCount; i++) {
            beams[i].release();
        }
        beamCount = 0;
    }

    private void groupVoice(int voice) {
        Beam row = freshRow();
        boolean reached = true;
        for (int i = 0; i < eventCount; i++) {
            Event e = events[i];
            if (e.voice != voice) {
                continue;
            }
            if (e.isRest()) {
                reached = reached && overRests && e.isShort();
                continue;
            }
            if (!reached || !goesOn(row, e)) {
                finish(row);
                row = freshRow();
            }
            if (e.isShort()) {
                row.add(e);
            }
            reached = true;
        }
        finish(row);
    }

    private Beam freshRow() {
        Beam row = beams[Math.min(beamCount, beams.length - 1)];
        row.empty();
        return row;
    }

    /** Whether a note goes on from the last one of a row; that no event hinders it is known. */
    private boolean goesOn(Beam row, Event e) {
        if (!e.isShort() || e.marking == CUT || row.size == 0 || row.size >= MOST_IN_BEAM) {
            return false;
        }
        int from = row.notes[row.size - 1].begin;
        boolean together = bars.barAt(from) == bars.barAt(e.begin) && bars.groupAt(from) == bars.groupAt(e.begin);
        return together || e.marking == JOINED;
    }

    private void finish(Beam row) {
        if (row.size < 2) {
            return;
        }
        row.aimStems(isTwoVoiced());
        row.judgeSlope();
        if (row.findPlace()) {
            row.hold(beamCount);
            beamCount++;
        } else {
            openCount++;
        }
    }

    private int stubOf(Event e, Beam b) {
        if (e.inBeam == 0) {
            return STUB_RIGHT;
        }
        if (e.inBeam == b.size - 1) {
            return STUB_LEFT;
        }
        int pair = 2 * Event.ticksOf(e.value, 0);
        return pair > 0 && bars.offsetAt(e.begin) % pair == 0 ? STUB_RIGHT : STUB_LEFT;
    }

    /** The NOTE next to an event in its voice, before it (step -1) or after it (1); null if there is none. */
    private Event noteBeside(Event e, int step) {
        int number = e.number + step;
        for (int tries = 0; tries < MOST_EVENTS; tries++) {
            Event found = eventAt(number);
            if (found == null) {
                return null;
            }
            if (found.voice == e.voice && !found.isRest()) {
                return found;
            }
            number += step;
        }
        return null;
    }

    /** The METER, and where in bars and GROUPS a TICK lies. */
    private static final class Bars {
        private final int[] groupEnds = new int[GREATEST_UP];
        int groupCount, ticks;
        private int unit;

        Bars() {
            set(4, 4, 0);
        }

        static boolean isMeter(int up, int down, int digits) {
            return up >= 1 && up <= GREATEST_UP && unitOf(down) > 0 && (digits == 0 || digitsAddUp(digits, up));
        }

        private static int unitOf(int down) {
            switch (down) {
                case 2: return WHOLE / 2;
                case 4: return WHOLE / 4;
                case 8: return WHOLE / 8;
                case 16: return WHOLE / 16;
                default: return 0;
            }
        }

        private static boolean digitsAddUp(int digits, int sum) {
            int left = sum;
            for (int rest = digits; rest > 0; rest /= 10) {
                if (rest % 10 == 0) {
                    return false;
                }
                left -= rest % 10;
            }
            return left == 0;
        }

        void set(int up, int down, int digits) {
            unit = unitOf(down);
            ticks = up * unit;
            groupCount = 0;
            if (digits == 0) {
                addUsualGroups(up, down);
            } else {
                addToldGroups(digits);
            }
        }

        private void addUsualGroups(int up, int down) {
            int size = down < 8 ? 1 : up % 3 == 0 ? 3 : 2;
            int many = Math.max(1, up / size);
            for (int i = 1; i < many; i++) {
                addGroup(size);
            }
            addGroup(up - size * (many - 1));
        }

        private void addToldGroups(int digits) {
            int power = 1;
            for (int rest = digits / 10; rest > 0; rest /= 10) {
                power *= 10;
            }
            for (; power > 0; power /= 10) {
                addGroup(digits / power % 10);
            }
        }

        private void addGroup(int units) {
            int begin = groupCount > 0 && groupCount <= groupEnds.length ? groupEnds[groupCount - 1] : 0;
            if (groupCount < groupEnds.length) {
                groupEnds[groupCount] = begin + units * unit;
                groupCount++;
            }
        }

        int barAt(int tick) {
            return ticks > 0 ? tick / ticks : 0;
        }

        int offsetAt(int tick) {
            return ticks > 0 ? tick % ticks : 0;
        }

        int groupAt(int tick) {
            int offset = offsetAt(tick);
            int found = 0;
            while (found < groupCount - 1 && found < groupEnds.length && groupEnds[found] <= offset) {
                found++;
            }
            return found;
        }
    }

    /** A NOTE or a REST; a NOTE's stem is kept here as it was last aimed. */
    private static final class Event {
        int number, voice, value, begin, ticks;
        int heads, lowest, highest;
        int onStaff, marking;
        int beamNumber, inBeam;
        int way, near, want, least;
        private int placesTaken, levelsBroken;

        static int ticksOf(int value, int dots) {
            int plain = WHOLE >> value;
            return dots == 0 ? plain : dots == 1 ? plain + plain / 2 : plain + 3 * plain / 4;
        }

        void reset(int itsNumber, int itsVoice, int itsValue) {
            number = itsNumber;
            voice = itsVoice;
            value = itsValue;
            heads = 0;
            placesTaken = 0;
            onStaff = 0;
            marking = 0;
            levelsBroken = 0;
            beamNumber = NONE;
            inBeam = 0;
        }

        boolean isRest() {
            return heads == 0;
        }

        /** Whether its VALUE is one that beams take and go over. */
        boolean isShort() {
            return value >= 3;
        }

        int levels() {
            return Math.max(0, value - 2);
        }

        boolean hasHead(int place) {
            return (placesTaken >> (place + FARTHEST_PLACE) & 1) == 1;
        }

        void addHead(int place) {
            lowest = heads == 0 ? place : Math.min(lowest, place);
            highest = heads == 0 ? place : Math.max(highest, place);
            placesTaken |= 1 << (place + FARTHEST_PLACE);
            heads++;
        }

        boolean isBroken(int level) {
            return (levelsBroken >> level & 1) == 1;
        }

        void setBroken(int level, boolean is) {
            int bit = 1 << level;
            levelsBroken = is ? levelsBroken | bit : levelsBroken & ~bit;
        }

        int middle() {
            return -STAFF_GAP * onStaff;
        }

        int wayAlone(boolean twoVoiced) {
            if (twoVoiced) {
                return voice == 0 ? UP : DOWN;
            }
            return lowest + highest < 0 ? UP : DOWN;
        }

        /** Turns the stem and finds its NEAR, WANT and LEAST. */
        void aim(int direction, boolean between) {
            int more = 3 * Math.max(0, levels() - 2);
            way = direction;
            near = 2 * (way == UP ? highest : lowest) + middle();
            want = 14 + more;
            least = 10 + more;
            int toMiddle = lengthTo(middle());
            if (!between && toMiddle > want) {
                want = toMiddle;
            }
        }

        int lengthTo(int end) {
            return (end - near) * way;
        }
    }

    /** A row of notes that go on, and, once it is settled, the beam that they have. */
    private static final class Beam {
        final Event[] notes = new Event[MOST_IN_BEAM];
        int size, way, first, slant, ideal, feathered;
        boolean flat;
        long bad;

        Beam(Event blank) {
            // Filled at once, so that no element is ever null.
            for (int k = 0; k < notes.length; k++) {
                notes[k] = blank;
            }
        }

        void empty() {
            size = 0;
            feathered = 0;
        }

        void add(Event note) {
            if (size < notes.length) {
                notes[size] = note;
                size++;
            }
        }

        boolean has(int k) {
            return k >= 0 && k < size;
        }

        void hold(int number) {
            for (int k = 0; k < size; k++) {
                notes[k].beamNumber = number;
                notes[k].inBeam = k;
            }
        }

        void release() {
            for (int k = 0; k < size; k++) {
                notes[k].beamNumber = NONE;
            }
        }

        int greatestLevel() {
            int greatest = 1;
            for (int k = 0; k < size; k++) {
                greatest = Math.max(greatest, notes[k].levels());
            }
            return greatest;
        }

        void aimStems(boolean twoVoiced) {
            way = isOnBothStaves() ? BETWEEN : twoVoiced ? notes[0].wayAlone(true) : wayByHeads();
            for (int k = 0; k < size; k++) {
                int between = notes[k].onStaff == 0 ? DOWN : UP;
                notes[k].aim(way == BETWEEN ? between : way, way == BETWEEN);
            }
        }

        private boolean isOnBothStaves() {
            boolean both = false;
            for (int k = 1; k < size; k++) {
                both = both || notes[k].onStaff != notes[0].onStaff;
            }
            return both;
        }

        private int wayByHeads() {
            int lowest = notes[0].lowest;
            int highest = notes[0].highest;
            int moreUp = 0;
            for (int k = 0; k < size; k++) {
                lowest = Math.min(lowest, notes[k].lowest);
                highest = Math.max(highest, notes[k].highest);
                moreUp += notes[k].wayAlone(false);
            }
            int sum = lowest + highest;
            return sum < 0 || sum == 0 && moreUp > 0 ? UP : DOWN;
        }

        void judgeSlope() {
            int start = notes[0].near;
            int end = has(size - 1) ? notes[size - 1].near : start;
            flat = way != BETWEEN && (start == end || isInnerFarther(start, end));
            ideal = flat || way == BETWEEN ? 0 : Math.max(-STEEPEST, Math.min(STEEPEST, (end - start) / 2));
        }

        private boolean isInnerFarther(int start, int end) {
            boolean farther = false;
            for (int k = 1; k < size - 1; k++) {
                int near = notes[k].near;
                farther = farther || (near - start) * way > 0 && (near - end) * way > 0;
            }
            return farther;
        }

        /** Finds f and SLANT of least BADNESS; false if it can lie nowhere. */
        boolean findPlace() {
            int begin = way == BETWEEN ? -STAFF_GAP : levelHeight() - 24 * way;
            int last = flat ? 0 : 2 * STEEPEST;
            bad = -1;
            for (int i = 0; i <= last; i++) {
                int s = i % 2 == 1 ? (i + 1) / 2 : -i / 2;
                // Where the SLANT's own badness is too much already, no height can better the beam.
                if (bad < 0 || slantBadness(s) < bad) {
                    tryHeights(begin, s);
                }
            }
            return bad >= 0;
        }

        private void tryHeights(int begin, int s) {
            int steps = way == BETWEEN ? STAFF_GAP : 36;
            int step = way == BETWEEN ? 1 : way;
            for (int i = 0; i <= steps; i++) {
                int f = begin + step * i;
                long tried = badnessAt(f, s);
                if (tried >= 0 && (bad < 0 || tried < bad)) {
                    bad = tried;
                    first = f;
                    slant = s;
                }
            }
        }

        /** The height at which the beam of SLANT 0 just can lie; not asked of beams BETWEEN. */
        private int levelHeight() {
            int height = notes[0].near + way * notes[0].least;
            for (int k = 1; k < size; k++) {
                int its = notes[k].near + way * notes[k].least;
                height = way == UP ? Math.max(height, its) : Math.min(height, its);
            }
            return height;
        }

        private long slantBadness(int s) {
            long off = s - ideal;
            return 8 * off * off;
        }

        /** BADNESS with f and SLANT s; -1 if it can't lie so. */
        long badnessAt(int f, int s) {
            long sum = slantBadness(s) + wedgeBadness(f) + wedgeBadness(f + s);
            for (int k = 0; k < size; k++) {
                int length = notes[k].lengthTo(f + rounded(s * k, size - 1));
                if (length < notes[k].least) {
                    return -1;
                }
                long off = length - notes[k].want;
                sum += off * off;
            }
            return sum;
        }

        private int wedgeBadness(int height) {
            int over = height - notes[0].middle();
            return way != BETWEEN && over >= -8 && over <= 8 && (over & 3) == 2 ? 25 : 0;
        }

        int heightAt(int k) {
            return first + rounded(slant * k, size - 1);
        }

        int laneAt(int k, int l) {
            int whole = LANE_GAP * (l - 1);
            int off = whole;
            if (feathered == FEATHERED_RIGHT) {
                off = rounded(whole * k, size - 1);
            } else if (feathered == FEATHERED_LEFT) {
                off = rounded(whole * (size - 1 - k), size - 1);
            }
            return heightAt(k) + (way == DOWN ? off : -off);
        }

        /** Where a REST behind note k that would be at this height gets out of the way. */
        int clearOf(int height, int k) {
            int lane = laneAt(k, greatestLevel());
            if (way == UP) {
                int bound = lane - 6;
                return height <= bound ? height : bound - Math.floorMod(bound, 4);
            }
            if (way == DOWN) {
                int bound = lane + 6;
                return height >= bound ? height : bound + Math.floorMod(-bound, 4);
            }
            return height;
        }

        /** To which sides note k hangs together with its neighbours at LEVEL l, which it has. */
        int sidesAt(int k, int l) {
            return (hangsBack(k, l) ? TO_LEFT : 0) + (hangsBack(k + 1, l) ? TO_RIGHT : 0);
        }

        private boolean hangsBack(int k, int l) {
            if (!has(k - 1) || !has(k)) {
                return false;
            }
            return l == 1 || notes[k - 1].levels() >= l && notes[k].levels() >= l && !notes[k].isBroken(l);
        }

        int countWith(int n) {
            int many = 0;
            for (int k = 0; k < size; k++) {
                many += notes[k].levels() >= n ? 1 : 0;
            }
            return many;
        }

        long lengthsWith(int n) {
            long sum = 0;
            for (int k = 0; k < size; k++) {
                sum += notes[k].levels() >= n ? notes[k].lengthTo(heightAt(k)) : 0;
            }
            return sum;
        }
    }
}
