import java.util.Arrays;

/** A touring stage's lighting, as the document's promises tell it. */
public final class GelBook {
    /** There is none. */
    public static final int NONE = -1;
    /** Sorts of cues. */
    public static final int HIGHEST = 0, LATEST = 1;

    private static final int LAMPS = 16;
    private static final int CUES = 12;
    private static final int PHASES = 3;
    private static final int CALLS = 512;
    private static final int MOST_BAR = 3;
    private static final int MOST_POSITION = 9;
    private static final int MOST_OF_GEL = 5;
    private static final int LEAST_WATTS = 100;
    private static final int MOST_WATTS = 2000;
    private static final int ALL_BARS = 15;
    private static final int MOST_POWER = 20000;
    private static final int POWER_AT_FIRST = 5000;
    private static final int FULL = 100;
    private static final int MOST_TIME = 60;
    private static final int MOST_PASS = 20;
    private static final int ACTIVE = 0, RELEASED = 1, WENT = 2, MASTER = 3;

    private final Rig rig;
    private final Cue[] cues;
    private final int[] powers;
    private final Goings live;
    private final Goings retold;
    private final Waiting waiting;
    private final History history;
    private int cueCount;
    private int tick;
    private int barredCount;

    public GelBook() {
        rig = new Rig();
        cues = new Cue[CUES];
        powers = new int[PHASES];
        Arrays.fill(powers, POWER_AT_FIRST);
        live = new Goings();
        retold = new Goings();
        waiting = new Waiting();
        history = new History();
    }

    // ---- lamps, houses

    public int lamp(int bar, int position, int gel, int watts, int phase)
            throws IllegalArgumentException, IllegalStateException {
        if (!isWithin(bar, 0, MOST_BAR) || !isWithin(position, 0, MOST_POSITION) || !isGel(gel)
                || !isWithin(watts, LEAST_WATTS, MOST_WATTS) || !isPhase(phase)) {
            throw new IllegalArgumentException("a lamp's argument is out of range");
        }
        if (rig.isFull()) {
            throw new IllegalStateException("all lamps hang");
        }
        int number = rig.hang(new Lamp(bar, position, gel, watts, phase));
        arrangeCues();
        return number;
    }

    public boolean die(int lamp) throws IndexOutOfBoundsException {
        Lamp struck = rig.lampAt(lamp);
        if (struck == null) {
            throw new IndexOutOfBoundsException("no such lamp");
        }
        struck.dead = !struck.dead;
        arrangeCues();
        return struck.dead;
    }

    public int house(int bars) throws IllegalArgumentException {
        if (!isWithin(bars, 0, ALL_BARS)) {
            throw new IllegalArgumentException("bars is out of range");
        }
        rig.bars = bars;
        arrangeCues();
        return rig.countUsable();
    }

    public int power(int phase, int watts) throws IndexOutOfBoundsException, IllegalArgumentException {
        if (!isPhase(phase)) {
            throw new IndexOutOfBoundsException("no such phase");
        }
        if (!isWithin(watts, 0, MOST_POWER)) {
            throw new IllegalArgumentException("watts is out of range");
        }
        int before = powers[phase];
        powers[phase] = watts;
        return before;
    }

    // ---- cues

    public int cue(int sort, int up, int down) throws IllegalArgumentException, IllegalStateException {
        if (!isWithin(sort, HIGHEST, LATEST) || !isWithin(up, 0, MOST_TIME) || !isWithin(down, 0, MOST_TIME)) {
            throw new IllegalArgumentException("a cue's argument is out of range");
        }
        if (cueCount >= cues.length) {
            throw new IllegalStateException("all cues are made");
        }
        int number = cueCount;
        cues[number] = new Cue(number, sort, up, down);
        cueCount++;
        return number;
    }

    public int level(int cue, int lamp, int level) throws IndexOutOfBoundsException, IllegalArgumentException {
        Cue told = cueAt(cue);
        if (told == null || rig.lampAt(lamp) == null) {
            throw new IndexOutOfBoundsException("no such cue or lamp");
        }
        if (!isWithin(level, 0, FULL)) {
            throw new IllegalArgumentException("level is out of range");
        }
        int before = told.tell(lamp, level);
        told.arrange(rig);
        return before;
    }

    public int follow(int cue, int other, int ticks) throws IndexOutOfBoundsException, IllegalArgumentException {
        Cue first = cueAt(cue);
        Cue next = cueAt(other);
        if (first == null || (next == null && other != NONE)) {
            throw new IndexOutOfBoundsException("no such cue");
        }
        if (!isWithin(ticks, 1, MOST_TIME)) {
            throw new IllegalArgumentException("ticks is out of range");
        }
        Cue before = first.follower;
        first.follower = next;
        first.delay = ticks;
        return before == null ? NONE : before.number;
    }

    public int go(int cue) throws IndexOutOfBoundsException, IllegalStateException {
        Cue wanted = cueAt(cue);
        if (wanted == null) {
            throw new IndexOutOfBoundsException("no such cue");
        }
        if (!canGo(wanted)) {
            throw new IllegalStateException("it asks too much of a phase");
        }
        begin(wanted);
        return live.count;
    }

    public boolean release(int cue) throws IndexOutOfBoundsException, IllegalStateException {
        Cue wanted = cueAt(cue);
        if (wanted == null) {
            throw new IndexOutOfBoundsException("no such cue");
        }
        Going going = live.goingOf(wanted);
        if (going == null || going.isReleased()) {
            throw new IllegalStateException("it is not active, or was released");
        }
        going.fall(tick);
        history.writeRelease(tick, wanted.number);
        live.dropOver(tick);
        return live.goingOf(wanted) != null;
    }

    public int pass(int ticks) throws IllegalArgumentException {
        if (!isWithin(ticks, 1, MOST_PASS)) {
            throw new IllegalArgumentException("ticks is out of range");
        }
        for (int i = 0; i < ticks; i++) {
            passOne();
        }
        return tick;
    }

    // ---- what is asked

    public int levelOf(int lamp) throws IndexOutOfBoundsException {
        if (rig.lampAt(lamp) == null) {
            throw new IndexOutOfBoundsException("no such lamp");
        }
        return bitsOf(live.mix(lamp, tick));
    }

    public int levelAnew(int lamp) throws IndexOutOfBoundsException {
        if (rig.lampAt(lamp) == null) {
            throw new IndexOutOfBoundsException("no such lamp");
        }
        retell();
        return bitsOf(retold.mix(lamp, tick));
    }

    public int loadOf(int phase) throws IndexOutOfBoundsException {
        if (!isPhase(phase)) {
            throw new IndexOutOfBoundsException("no such phase");
        }
        return bitsOf(loadNow(phase));
    }

    public int watts(int phase) throws IndexOutOfBoundsException {
        if (!isPhase(phase)) {
            throw new IndexOutOfBoundsException("no such phase");
        }
        return (int) loadNow(phase);
    }

    public int asks(int cue, int phase) throws IndexOutOfBoundsException {
        Cue wanted = cueAt(cue);
        if (wanted == null || !isPhase(phase)) {
            throw new IndexOutOfBoundsException("no such cue or phase");
        }
        return wattsAsked(wanted, phase);
    }

    public int shines(int cue, int lamp) throws IndexOutOfBoundsException {
        Cue wanted = cueAt(cue);
        if (wanted == null || rig.lampAt(lamp) == null) {
            throw new IndexOutOfBoundsException("no such cue or lamp");
        }
        return wanted.shinerFor(lamp);
    }

    public int playing(int cue, int what) throws IndexOutOfBoundsException, IllegalArgumentException {
        Cue wanted = cueAt(cue);
        if (wanted == null) {
            throw new IndexOutOfBoundsException("no such cue");
        }
        if (!isWithin(what, ACTIVE, MASTER)) {
            throw new IllegalArgumentException("what is out of range");
        }
        Going going = live.goingOf(wanted);
        if (going == null) {
            return what == ACTIVE || what == RELEASED ? 0 : NONE;
        }
        switch (what) {
            case ACTIVE:
                return 1;
            case RELEASED:
                return going.isReleased() ? 1 : 0;
            case WENT:
                return going.went;
            default:
                return bitsOf(going.master(tick));
        }
    }

    public int barred() {
        return barredCount;
    }

    // ---- ranges and numbers

    private static boolean isWithin(int number, int least, int most) {
        return number >= least && number <= most;
    }

    private static boolean isPhase(int phase) {
        return isWithin(phase, 0, PHASES - 1);
    }

    private static boolean isGel(int gel) {
        return gel >= 0 && gel / 10 <= MOST_OF_GEL && gel % 10 <= MOST_OF_GEL;
    }

    private Cue cueAt(int number) {
        return number >= 0 && number < cues.length ? cues[number] : null;
    }

    /**
     * As Float.floatToIntBits(), which the language rules leave out. No float here is below 0.0, so the sign bit stays
     * off; halving, doubling and taking 1.0 away lose nothing.
     */
    private static int bitsOf(float number) {
        if (number <= 0.0f) {
            return 0;
        }
        float rest = number;
        int exponent = 127;
        while (rest >= 2.0f && exponent < 254) {
            rest = rest / 2.0f;
            exponent++;
        }
        while (rest < 1.0f && exponent > 1) {
            rest = rest * 2.0f;
            exponent--;
        }
        if (rest < 1.0f) {
            return (int) (rest * 8388608.0f);
        }
        return (exponent << 23) + (int) ((rest - 1.0f) * 8388608.0f);
    }

    // ---- going

    /** The rows of each cue are kept up to date at every change, so that passing ticks need not look for stand-ins. */
    private void arrangeCues() {
        for (int i = 0; i < cues.length; i++) {
            Cue cue = cues[i];
            if (cue != null) {
                cue.arrange(rig);
            }
        }
    }

    private boolean canGo(Cue cue) {
        for (int phase = 0; phase < powers.length; phase++) {
            if (wattsAsked(cue, phase) > powers[phase]) {
                return false;
            }
        }
        return true;
    }

    private int wattsAsked(Cue cue, int phase) {
        int hundredths = 0;
        for (int i = 0; i < LAMPS; i++) {
            Lamp lamp = rig.lampAt(i);
            if (lamp != null && lamp.phase == phase) {
                hundredths += lamp.watts * Math.max(cue.levelFor(i), live.greatestUnreleased(i));
            }
        }
        return (hundredths + 99) / 100;
    }

    private void begin(Cue cue) {
        live.begin(cue, tick);
        history.writeGoing(tick, cue.number);
        if (cue.follower != null) {
            waiting.note(cue.follower, tick + cue.delay);
        }
    }

    private void passOne() {
        tick++;
        live.dropOver(tick);
        waiting.takeDue(tick);
        for (int i = 0; i < waiting.readyCount; i++) {
            Cue cue = waiting.readyAt(i);
            if (cue == null) {
                continue;
            }
            if (canGo(cue)) {
                begin(cue);
            } else {
                barredCount++;
            }
        }
    }

    private float loadNow(int phase) {
        float load = 0.0f;
        for (int i = 0; i < LAMPS; i++) {
            Lamp lamp = rig.lampAt(i);
            if (lamp != null && lamp.phase == phase) {
                load = load + (float) lamp.watts * live.mix(i, tick) / 100.0f;
            }
        }
        return load;
    }

    private void retell() {
        retold.clear();
        for (int i = 0; i < history.count; i++) {
            int entry = history.entryAt(i);
            Cue cue = cueAt(History.cueOf(entry));
            if (cue == null) {
                continue;
            }
            if (History.isRelease(entry)) {
                retold.fall(cue, History.tickOf(entry));
            } else {
                retold.begin(cue, History.tickOf(entry));
            }
        }
        retold.dropOver(tick);
    }

    private static final class Lamp {
        final int bar;
        final int position;
        final int gel;
        final int watts;
        final int phase;
        boolean dead;

        Lamp(int bar, int position, int gel, int watts, int phase) {
            this.bar = bar;
            this.position = position;
            this.gel = gel;
            this.watts = watts;
            this.phase = phase;
        }

        int distanceTo(Lamp other) {
            return 10 * Math.abs(bar - other.bar) + Math.abs(position - other.position);
        }
    }

    /** The lamps that hang, and the bars of the house. */
    private static final class Rig {
        final Lamp[] lamps;
        int count;
        int bars;

        Rig() {
            lamps = new Lamp[LAMPS];
            bars = ALL_BARS;
        }

        boolean isFull() {
            return count >= lamps.length;
        }

        int hang(Lamp lamp) {
            if (count >= lamps.length) {
                return NONE;
            }
            lamps[count] = lamp;
            count++;
            return count - 1;
        }

        Lamp lampAt(int number) {
            return number >= 0 && number < lamps.length ? lamps[number] : null;
        }

        boolean isUsable(Lamp lamp) {
            return lamp != null && !lamp.dead && (bars >> lamp.bar & 1) == 1;
        }

        int countUsable() {
            int usable = 0;
            for (int i = 0; i < lamps.length; i++) {
                if (isUsable(lamps[i])) {
                    usable++;
                }
            }
            return usable;
        }

        /** The nearest lamp of its gel that the cue does not use itself, the lowest of several, or NONE. */
        int nearestSpare(Lamp missing, Cue cue) {
            int nearest = NONE;
            int least = 0;
            for (int i = 0; i < lamps.length; i++) {
                Lamp lamp = lamps[i];
                if (lamp == null || !isUsable(lamp) || lamp.gel != missing.gel || !cue.canSpare(i)) {
                    continue;
                }
                int distance = missing.distanceTo(lamp);
                if (nearest == NONE || distance < least) {
                    least = distance;
                    nearest = i;
                }
            }
            return nearest;
        }
    }

    private static final class Cue {
        final int number;
        final int sort;
        final int up;
        final int down;
        /** The level told for each lamp, which lamp shines for it, and the level that the cue then has for each. */
        final int[] told;
        final int[] shiners;
        final int[] levels;
        Cue follower;
        int delay;

        Cue(int number, int sort, int up, int down) {
            this.number = number;
            this.sort = sort;
            this.up = up;
            this.down = down;
            told = new int[LAMPS];
            shiners = new int[LAMPS];
            levels = new int[LAMPS];
            Arrays.fill(shiners, NONE);
        }

        int tell(int lamp, int level) {
            if (lamp < 0 || lamp >= told.length) {
                return 0;
            }
            int before = told[lamp];
            told[lamp] = level;
            return before;
        }

        int shinerFor(int lamp) {
            return lamp >= 0 && lamp < shiners.length ? shiners[lamp] : NONE;
        }

        int levelFor(int lamp) {
            return lamp >= 0 && lamp < levels.length ? levels[lamp] : 0;
        }

        /** A lamp without a told level has one only if it stands in already. */
        boolean canSpare(int lamp) {
            return lamp >= 0 && lamp < LAMPS && told[lamp] == 0 && levels[lamp] == 0;
        }

        void arrange(Rig rig) {
            Arrays.fill(shiners, NONE);
            Arrays.fill(levels, 0);
            for (int i = 0; i < LAMPS; i++) {
                Lamp lamp = rig.lampAt(i);
                if (lamp == null || told[i] == 0) {
                    continue;
                }
                int shiner = rig.isUsable(lamp) ? i : rig.nearestSpare(lamp, this);
                if (shiner >= 0 && shiner < LAMPS) {
                    shiners[i] = shiner;
                    levels[shiner] = told[i];
                }
            }
        }

        float masterRisen(int ticks) {
            if (up == 0) {
                return 1.0f;
            }
            float share = (float) ticks / (float) up;
            return share < 1.0f ? share : 1.0f;
        }
    }

    private static final class Going {
        Cue cue;
        int went;
        int releasedAt;

        Going() {
            releasedAt = NONE;
        }

        void begin(Cue begun, int now) {
            cue = begun;
            went = now;
            releasedAt = NONE;
        }

        void fall(int now) {
            releasedAt = now;
        }

        boolean isReleased() {
            return releasedAt != NONE;
        }

        boolean isOver(int now) {
            return cue == null || (isReleased() && now - releasedAt >= cue.down);
        }

        boolean isOf(int sort) {
            return cue != null && cue.sort == sort;
        }

        int levelFor(int lamp) {
            return cue == null ? 0 : cue.levelFor(lamp);
        }

        float master(int now) {
            if (cue == null) {
                return 0.0f;
            }
            if (!isReleased()) {
                return cue.masterRisen(now - went);
            }
            if (cue.down == 0) {
                return 0.0f;
            }
            return cue.masterRisen(releasedAt - went) * (1.0f - (float) (now - releasedAt) / (float) cue.down);
        }
    }

    /** The goings that are not over, in their order; those behind the count are spare, to be used again. */
    private static final class Goings {
        final Going[] row;
        int count;

        Goings() {
            row = new Going[CUES];
            for (int i = 0; i < row.length; i++) {
                row[i] = new Going();
            }
        }

        void clear() {
            count = 0;
        }

        Going at(int place) {
            return place >= 0 && place < count && place < row.length ? row[place] : null;
        }

        int placeOf(Cue cue) {
            for (int i = 0; i < count; i++) {
                Going going = at(i);
                if (going != null && going.cue == cue) {
                    return i;
                }
            }
            return NONE;
        }

        Going goingOf(Cue cue) {
            return at(placeOf(cue));
        }

        void begin(Cue cue, int now) {
            int place = placeOf(cue);
            if (place == NONE && count < row.length) {
                place = count;
                count++;
            }
            moveLast(place);
            Going last = at(count - 1);
            if (last != null) {
                last.begin(cue, now);
            }
        }

        void fall(Cue cue, int now) {
            Going going = goingOf(cue);
            if (going != null) {
                going.fall(now);
            }
        }

        void dropOver(int now) {
            for (int i = count - 1; i >= 0; i--) {
                Going going = at(i);
                if (going != null && going.isOver(now)) {
                    moveLast(i);
                    count--;
                }
            }
        }

        void moveLast(int place) {
            Going moved = at(place);
            if (moved == null) {
                return;
            }
            int last = place;
            while (last + 1 < count && last + 1 < row.length) {
                row[last] = row[last + 1];
                last++;
            }
            row[last] = moved;
        }

        int greatestUnreleased(int lamp) {
            int greatest = 0;
            for (int i = 0; i < count; i++) {
                Going going = at(i);
                if (going != null && !going.isReleased()) {
                    greatest = Math.max(greatest, going.levelFor(lamp));
                }
            }
            return greatest;
        }

        /** The level of a lamp: the highest of the one sort, then the latest of the other over it. */
        float mix(int lamp, int now) {
            float level = 0.0f;
            for (int i = 0; i < count; i++) {
                Going going = at(i);
                if (going != null && going.isOf(HIGHEST) && going.levelFor(lamp) > 0) {
                    float own = going.master(now) * (float) going.levelFor(lamp);
                    level = own > level ? own : level;
                }
            }
            for (int i = 0; i < count; i++) {
                Going going = at(i);
                if (going != null && going.isOf(LATEST) && going.levelFor(lamp) > 0) {
                    level = level + going.master(now) * ((float) going.levelFor(lamp) - level);
                }
            }
            return level;
        }
    }

    /** The cues that are to follow, in the order in which that was noted: no more than there were calls of go. */
    private static final class Waiting {
        final Cue[] noted;
        final int[] dueAt;
        final Cue[] ready;
        int count;
        int readyCount;

        Waiting() {
            noted = new Cue[CALLS];
            dueAt = new int[CALLS];
            ready = new Cue[CALLS];
        }

        void note(Cue cue, int due) {
            if (count < noted.length && count < dueAt.length) {
                noted[count] = cue;
                dueAt[count] = due;
                count++;
            }
        }

        /** Those due are taken out before any of them goes, as each that goes may note another one. */
        void takeDue(int now) {
            int kept = 0;
            readyCount = 0;
            for (int i = 0; i < count && i < noted.length && i < dueAt.length; i++) {
                if (dueAt[i] != now) {
                    noted[kept] = noted[i];
                    dueAt[kept] = dueAt[i];
                    kept++;
                } else if (readyCount < ready.length) {
                    ready[readyCount] = noted[i];
                    readyCount++;
                }
            }
            count = kept;
        }

        Cue readyAt(int place) {
            return place >= 0 && place < readyCount && place < ready.length ? ready[place] : null;
        }
    }

    /**
     * All goings and releases since the beginning, an int each to spare room. Of several goings of a cue at one tick
     * only the last is kept, as it is in place of those before: chains of followers could else fill the room.
     */
    private static final class History {
        static final int RELEASE_BIT = 1;
        static final int MOST_ENTRIES = CALLS * MOST_PASS * CUES;
        int[] entries;
        int count;

        History() {
            entries = new int[64];
        }

        static int entryFor(int tick, int cue, int kind) {
            return tick << 5 | cue << 1 | kind;
        }

        static int tickOf(int entry) {
            return entry >> 5;
        }

        static int cueOf(int entry) {
            return entry >> 1 & 15;
        }

        static boolean isRelease(int entry) {
            return (entry & RELEASE_BIT) != 0;
        }

        int entryAt(int place) {
            return place >= 0 && place < entries.length ? entries[place] : 0;
        }

        void writeGoing(int tick, int cue) {
            int entry = entryFor(tick, cue, 0);
            strike(entry);
            append(entry);
        }

        void writeRelease(int tick, int cue) {
            append(entryFor(tick, cue, RELEASE_BIT));
        }

        void strike(int entry) {
            int place = count - 1;
            while (place >= 0 && tickOf(entryAt(place)) == tickOf(entry)) {
                if (entryAt(place) == entry) {
                    removeAt(place);
                    return;
                }
                place--;
            }
        }

        void removeAt(int place) {
            if (place < 0 || place >= count) {
                return;
            }
            for (int i = place; i + 1 < count && i + 1 < entries.length; i++) {
                entries[i] = entries[i + 1];
            }
            count--;
        }

        void append(int entry) {
            if (count >= entries.length && entries.length < MOST_ENTRIES) {
                entries = Arrays.copyOf(entries, Math.min(2 * entries.length, MOST_ENTRIES));
            }
            if (count >= 0 && count < entries.length) {
                entries[count] = entry;
                count++;
            }
        }
    }
}
