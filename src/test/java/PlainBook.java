import java.util.ArrayList;
import java.util.HashSet;
import java.util.List;
import java.util.Set;
import java.util.TreeMap;

/** The document once more, in the slowest and plainest way, to compare GelBook with: all that can be found is. */
final class PlainBook {
    record Lamp(int bar, int position, int gel, int watts, int phase) {
    }

    record Cue(int sort, int up, int down) {
    }

    record Event(int tick, int cue, boolean release) {
    }

    record Note(int due, int cue) {
    }

    private final List<Lamp> lamps = new ArrayList<>();
    private final Set<Integer> dead = new HashSet<>();
    private int bars = 15;
    private final int[] powers = {5000, 5000, 5000};
    private final List<Cue> cues = new ArrayList<>();
    private final List<TreeMap<Integer, Integer>> levels = new ArrayList<>();
    private final List<int[]> followers = new ArrayList<>();
    private final List<Event> events = new ArrayList<>();
    private final List<Note> notes = new ArrayList<>();
    private int tick = 0;
    private int barred = 0;

    private static void index(boolean good) {
        if (!good) {
            throw new IndexOutOfBoundsException();
        }
    }

    private static void argument(boolean good) {
        if (!good) {
            throw new IllegalArgumentException();
        }
    }

    private static void state(boolean good) {
        if (!good) {
            throw new IllegalStateException();
        }
    }

    private boolean isLamp(int n) {
        return 0 <= n && n < lamps.size();
    }

    private boolean isCue(int n) {
        return 0 <= n && n < cues.size();
    }

    private static boolean isPhase(int n) {
        return n == 0 || n == 1 || n == 2;
    }

    int lamp(int bar, int position, int gel, int watts, int phase) {
        argument(bar >= 0 && bar < 4 && position >= 0 && position < 10 && isPhase(phase));
        argument(watts >= 100 && watts <= 2000);
        boolean found = false;
        for (int colour = 0; colour <= 5; colour++) {
            for (int aim = 0; aim <= 5; aim++) {
                found |= gel == 10 * colour + aim;
            }
        }
        argument(found);
        state(lamps.size() != 16);
        lamps.add(new Lamp(bar, position, gel, watts, phase));
        return lamps.size() - 1;
    }

    boolean die(int lamp) {
        index(isLamp(lamp));
        if (!dead.remove(lamp)) {
            dead.add(lamp);
        }
        return dead.contains(lamp);
    }

    int house(int there) {
        argument(there >= 0 && there <= 15);
        bars = there;
        int usable = 0;
        for (int i = 0; i < lamps.size(); i++) {
            usable += usable(i) ? 1 : 0;
        }
        return usable;
    }

    int power(int phase, int watts) {
        index(isPhase(phase));
        argument(watts >= 0 && watts <= 20000);
        int was = powers[phase];
        powers[phase] = watts;
        return was;
    }

    int cue(int sort, int up, int down) {
        argument((sort == 0 || sort == 1) && up >= 0 && up <= 60 && down >= 0 && down <= 60);
        state(cues.size() != 12);
        cues.add(new Cue(sort, up, down));
        levels.add(new TreeMap<>());
        followers.add(new int[] {-1, 0});
        return cues.size() - 1;
    }

    int level(int cue, int lamp, int level) {
        index(isCue(cue) && isLamp(lamp));
        argument(level >= 0 && level <= 100);
        Integer was = level == 0 ? levels.get(cue).remove(lamp) : levels.get(cue).put(lamp, level);
        return was == null ? 0 : was;
    }

    int follow(int cue, int other, int ticks) {
        index(isCue(cue) && (other == -1 || isCue(other)));
        argument(ticks >= 1 && ticks <= 60);
        int was = followers.get(cue)[0];
        followers.set(cue, new int[] {other, ticks});
        return was;
    }

    int go(int cue) {
        index(isCue(cue));
        state(canGo(cue));
        begin(cue);
        return active().size();
    }

    boolean release(int cue) {
        index(isCue(cue));
        state(active().contains(cue) && released(cue) < 0);
        events.add(new Event(tick, cue, true));
        return active().contains(cue);
    }

    int pass(int ticks) {
        argument(ticks >= 1 && ticks <= 20);
        for (int i = 0; i < ticks; i++) {
            tick++;
            for (Note note : List.copyOf(notes)) {
                if (note.due() == tick) {
                    notes.remove(note);
                    if (canGo(note.cue())) {
                        begin(note.cue());
                    } else {
                        barred++;
                    }
                }
            }
        }
        return tick;
    }

    int levelOf(int lamp) {
        index(isLamp(lamp));
        return Float.floatToIntBits(mixed(lamp));
    }

    int levelAnew(int lamp) {
        return levelOf(lamp);
    }

    int loadOf(int phase) {
        index(isPhase(phase));
        return Float.floatToIntBits(load(phase));
    }

    int watts(int phase) {
        index(isPhase(phase));
        return (int) load(phase);
    }

    int asks(int cue, int phase) {
        index(isCue(cue) && isPhase(phase));
        List<Integer> asking = new ArrayList<>(List.of(cue));
        for (int other : active()) {
            if (released(other) < 0) {
                asking.add(other);
            }
        }
        long sum = 0;
        for (int i = 0; i < lamps.size(); i++) {
            int greatest = 0;
            for (int one : asking) {
                greatest = Math.max(greatest, level(one, i));
            }
            sum += lamps.get(i).phase() == phase ? (long) lamps.get(i).watts() * greatest : 0;
        }
        return (int) (sum / 100 + (sum % 100 > 0 ? 1 : 0));
    }

    int shines(int cue, int lamp) {
        index(isCue(cue) && isLamp(lamp));
        return shiners(cue).getOrDefault(lamp, -1);
    }

    int playing(int cue, int what) {
        index(isCue(cue));
        argument(what >= 0 && what <= 3);
        if (!active().contains(cue)) {
            return what < 2 ? 0 : -1;
        }
        return switch (what) {
            case 0 -> 1;
            case 1 -> released(cue) < 0 ? 0 : 1;
            case 2 -> events.get(lastGoing(cue)).tick();
            default -> Float.floatToIntBits(master(cue));
        };
    }

    int barred() {
        return barred;
    }

    private boolean usable(int lamp) {
        return !dead.contains(lamp) && (bars & (1 << lamps.get(lamp).bar())) != 0;
    }

    private TreeMap<Integer, Integer> shiners(int cue) {
        TreeMap<Integer, Integer> shiners = new TreeMap<>();
        for (int lamp : levels.get(cue).keySet()) {
            if (usable(lamp)) {
                shiners.put(lamp, lamp);
            }
        }
        for (int lamp : levels.get(cue).keySet()) {
            int best = -1;
            for (int i = lamps.size() - 1; i >= 0 && !usable(lamp); i--) {
                boolean fits = usable(i) && lamps.get(i).gel() == lamps.get(lamp).gel()
                        && !levels.get(cue).containsKey(i) && !shiners.containsValue(i);
                if (fits && (best < 0 || distance(lamp, i) <= distance(lamp, best))) {
                    best = i;
                }
            }
            if (best >= 0) {
                shiners.put(lamp, best);
            }
        }
        return shiners;
    }

    private int distance(int one, int other) {
        Lamp a = lamps.get(one);
        Lamp b = lamps.get(other);
        return 10 * Math.abs(a.bar() - b.bar()) + Math.abs(a.position() - b.position());
    }

    private int level(int cue, int lamp) {
        for (var shiner : shiners(cue).entrySet()) {
            if (shiner.getValue() == lamp) {
                return levels.get(cue).get(shiner.getKey());
            }
        }
        return 0;
    }

    private int lastGoing(int cue) {
        for (int i = events.size() - 1; i >= 0; i--) {
            if (events.get(i).cue() == cue && !events.get(i).release()) {
                return i;
            }
        }
        return -1;
    }

    /** The tick at which the last going of a cue was released, or -1. */
    private int released(int cue) {
        for (int i = lastGoing(cue) + 1; i < events.size(); i++) {
            if (events.get(i).cue() == cue) {
                return events.get(i).tick();
            }
        }
        return -1;
    }

    /** The active cues, by the order of their goings. */
    private List<Integer> active() {
        List<Integer> active = new ArrayList<>();
        for (int i = 0; i < events.size(); i++) {
            int cue = events.get(i).cue();
            boolean last = lastGoing(cue) == i;
            if (last && (released(cue) < 0 || tick - released(cue) < cues.get(cue).down())) {
                active.add(cue);
            }
        }
        return active;
    }

    private boolean canGo(int cue) {
        return asks(cue, 0) <= powers[0] && asks(cue, 1) <= powers[1] && asks(cue, 2) <= powers[2];
    }

    private void begin(int cue) {
        events.add(new Event(tick, cue, false));
        int[] follower = followers.get(cue);
        if (follower[0] >= 0) {
            notes.add(new Note(tick + follower[1], follower[0]));
        }
    }

    private float risen(int cue, int at) {
        int up = cues.get(cue).up();
        return up == 0 ? 1f : Math.min(1f, (float) (at - events.get(lastGoing(cue)).tick()) / up);
    }

    private float master(int cue) {
        int since = released(cue);
        if (since < 0) {
            return risen(cue, tick);
        }
        return risen(cue, since) * (1f - (float) (tick - since) / cues.get(cue).down());
    }

    private float mixed(int lamp) {
        float highest = 0f;
        for (int cue : active()) {
            if (cues.get(cue).sort() == 0) {
                highest = Math.max(highest, master(cue) * level(cue, lamp));
            }
        }
        float level = highest;
        for (int cue : active()) {
            if (cues.get(cue).sort() == 1 && level(cue, lamp) > 0) {
                level += master(cue) * (level(cue, lamp) - level);
            }
        }
        return level;
    }

    private float load(int phase) {
        float load = 0f;
        for (int i = 0; i < lamps.size(); i++) {
            if (lamps.get(i).phase() == phase) {
                load += lamps.get(i).watts() * mixed(i) / 100f;
            }
        }
        return load;
    }
}
