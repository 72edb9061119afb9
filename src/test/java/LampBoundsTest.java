/** The sentences of 'Lamps' and of promises 1 to 5 that name a boundary: a test for each. */
public final class LampBoundsTest {
    private static final int[] FAR = {Integer.MIN_VALUE, Integer.MIN_VALUE + 1, -2, -1, Integer.MAX_VALUE};

    public static void main(String[] args) {
        nothingAtFirst();
        tickZeroAtFirst();
        allBarsAtFirst();
        lampNumbers();
        bars();
        positions();
        colours();
        aims();
        watts();
        phases();
        seventeenthLamp();
        notDeadAtFirst();
        dyingAndMending();
        firstAndLastLampDie();
        houses();
        usableCount();
        usable();
        powerRange();
        powerAtFirst();
        powerNotBeyond();
        powerOfNothing();
        powerLeavesWhatGoes();
        severalExceptions();
        Check.end();
    }

    /** A cue that has all lamps at a level. */
    private static int cueOfAll(GelBook x, int lamps, int level) {
        int cue = x.cue(GelBook.HIGHEST, 0, 0);
        for (int i = 0; i < lamps; i++) {
            x.level(cue, i, level);
        }
        return cue;
    }

    /** Promise 1: "No lamps, no cues". */
    private static void nothingAtFirst() {
        GelBook x = new GelBook();
        Check.index("1: die, no lamp", () -> x.die(0));
        Check.index("1: levelOf, no lamp", () -> x.levelOf(0));
        Check.index("1: levelAnew, no lamp", () -> x.levelAnew(0));
        Check.index("1: follow, no cue", () -> x.follow(0, GelBook.NONE, 1));
        Check.index("1: go, no cue", () -> x.go(0));
        Check.index("1: release, no cue", () -> x.release(0));
        Check.index("1: asks, no cue", () -> x.asks(0, 0));
        Check.index("1: playing, no cue", () -> x.playing(0, 0));
        Check.index("1: level, neither", () -> x.level(0, 0, 1));
        Check.index("1: shines, neither", () -> x.shines(0, 0));
        for (int phase = 0; phase < 3; phase++) {
            Check.bits("1: no load", 0f, x.loadOf(phase));
            Check.same("1: no watts", 0, x.watts(phase));
        }
        Check.same("1: none barred", 0, x.barred());
        x.cue(GelBook.HIGHEST, 0, 0);
        Check.index("1: level, a cue but no lamp", () -> x.level(0, 0, 1));
        Check.index("1: shines, a cue but no lamp", () -> x.shines(0, 0));
        Check.same("1: a cue without lamps goes", 1, x.go(0));
        Check.same("1: and asks nothing", 0, x.asks(0, 2));
        GelBook y = new GelBook();
        y.lamp(0, 0, 0, 100, 0);
        Check.index("1: level, a lamp but no cue", () -> y.level(0, 0, 1));
        Check.index("1: shines, a lamp but no cue", () -> y.shines(0, 0));
    }

    /** Promise 1: "the tick 0". */
    private static void tickZeroAtFirst() {
        GelBook x = new GelBook();
        x.cue(GelBook.HIGHEST, 0, 0);
        x.go(0);
        Check.same("1: it went at the tick 0", 0, x.playing(0, 2));
        Check.same("1: then comes the tick 1", 1, x.pass(1));
    }

    /** Promise 1: "all bars". */
    private static void allBarsAtFirst() {
        for (int bar = 0; bar <= 3; bar++) {
            GelBook x = new GelBook();
            x.lamp(bar, 0, 0, 100, 0);
            cueOfAll(x, 1, 100);
            Check.same("1: bar " + bar + " is there", 0, x.shines(0, 0));
        }
    }

    /** "Lamps are numbered from 0, at most 16": with each one there is one number more, and no other. */
    private static void lampNumbers() {
        GelBook x = new GelBook();
        for (int count = 0; count < 16; count++) {
            int next = count;
            Check.index("2: none yet " + count, () -> x.levelOf(next));
            Check.same("2: lamp " + count, count, x.lamp(0, 0, 0, 100, 0));
            Check.same("2: it is there " + count, 0, x.levelOf(count));
            Check.same("2: usable lamps " + count, count + 1, x.house(15));
        }
        Check.index("2: no lamp 16", () -> x.levelOf(16));
        for (int wrong : FAR) {
            Check.index("2: no lamp " + wrong, () -> x.levelOf(wrong));
        }
    }

    /** Promise 2: "`bar`: 0 to 3". */
    private static void bars() {
        for (int bar = 0; bar <= 3; bar++) {
            GelBook x = new GelBook();
            x.lamp(bar, 0, 0, 100, 0);
            for (int there = 0; there <= 15; there++) {
                Check.same("2: bar " + bar + " in house " + there, there >> bar & 1, x.house(there));
            }
            Check.argument("2: bar 4", () -> x.lamp(4, 0, 0, 100, 0));
            for (int wrong : FAR) {
                Check.argument("2: bar " + wrong, () -> x.lamp(wrong, 0, 0, 100, 0));
            }
            Check.same("2: none of these hangs", 1, x.lamp(0, 0, 0, 100, 0));
        }
    }

    /** Promise 2: "`position`: 0 to 9": a lamp at either end is found where it is. */
    private static void positions() {
        for (int position = 0; position <= 9; position++) {
            GelBook x = new GelBook();
            x.lamp(0, position, 0, 100, 0);
            x.lamp(0, 0, 0, 100, 0);
            x.lamp(0, 9, 0, 100, 0);
            cueOfAll(x, 1, 100);
            x.die(0);
            Check.same("2: position " + position, position <= 4 ? 1 : 2, x.shines(0, 0));
            Check.argument("2: position 10", () -> x.lamp(0, 10, 0, 100, 0));
            for (int wrong : FAR) {
                Check.argument("2: position " + wrong, () -> x.lamp(0, wrong, 0, 100, 0));
            }
            Check.same("2: none of these hangs", 3, x.lamp(0, 0, 0, 100, 0));
        }
    }

    /** Promise 2: "10 times the colour, 0 to 5": no colour is taken for another one. */
    private static void colours() {
        for (int aim = 0; aim <= 5; aim++) {
            GelBook x = new GelBook();
            for (int colour = 0; colour <= 5; colour++) {
                Check.same("2: colour " + colour, colour, x.lamp(0, colour, 10 * colour + aim, 100, 0));
            }
            for (int colour : new int[] {-2, -1, 6, 7, 9, 10, 20, 1000, Integer.MIN_VALUE / 10, Integer.MAX_VALUE / 10 - 1}) {
                int gel = 10 * colour + aim;
                Check.argument("2: gel " + gel, () -> x.lamp(0, 0, gel, 100, 0));
            }
            Check.same("2: six hang", 6, x.lamp(0, 0, aim, 100, 0));
            cueOfAll(x, 1, 100);
            x.die(0);
            Check.same("2: only its own colour stands in", 6, x.shines(0, 0));
            x.die(6);
            Check.same("2: no other colour does", GelBook.NONE, x.shines(0, 0));
        }
    }

    /** Promise 2: "and the aim, 0 to 5, together": no aim is taken for another one, nor for the next colour. */
    private static void aims() {
        for (int colour = 0; colour <= 5; colour++) {
            GelBook x = new GelBook();
            for (int aim = 0; aim <= 5; aim++) {
                Check.same("2: aim " + aim, aim, x.lamp(0, aim, 10 * colour + aim, 100, 0));
            }
            for (int aim = 6; aim <= 9; aim++) {
                int gel = 10 * colour + aim;
                Check.argument("2: gel " + gel, () -> x.lamp(0, 0, gel, 100, 0));
            }
            Check.same("2: six hang", 6, x.lamp(0, 0, 10 * colour + 5, 100, 0));
            int cue = x.cue(GelBook.HIGHEST, 0, 0);
            x.level(cue, 5, 100);
            x.die(5);
            Check.same("2: only its own aim stands in", 6, x.shines(cue, 5));
            x.die(6);
            Check.same("2: no other aim does", GelBook.NONE, x.shines(cue, 5));
        }
        GelBook y = new GelBook();
        for (int wrong = -120; wrong < 0; wrong++) {
            int gel = wrong;
            Check.argument("2: gel " + gel, () -> y.lamp(0, 0, gel, 100, 0));
        }
        for (int wrong : FAR) {
            Check.argument("2: gel " + wrong, () -> y.lamp(0, 0, wrong, 100, 0));
        }
    }

    /** Promise 2: "`watts`: 100 to 2000". */
    private static void watts() {
        GelBook x = new GelBook();
        int[] watts = {100, 101, 1999, 2000};
        for (int i = 0; i < watts.length; i++) {
            Check.same("2: watts " + watts[i], i, x.lamp(0, 0, 0, watts[i], 0));
            x.cue(GelBook.HIGHEST, 0, 0);
            x.level(i, i, 100);
            Check.same("2: asked for " + watts[i], watts[i], x.asks(i, 0));
        }
        for (int wrong : new int[] {99, 2001, 0, 1, 98, 2002, 20000}) {
            Check.argument("2: watts " + wrong, () -> x.lamp(0, 0, 0, wrong, 0));
        }
        for (int wrong : FAR) {
            Check.argument("2: watts " + wrong, () -> x.lamp(0, 0, 0, wrong, 0));
        }
        Check.same("2: none of these hangs", 4, x.lamp(0, 0, 0, 100, 0));
    }

    /** Promise 2: "`phase`: 0 to 2". */
    private static void phases() {
        for (int phase = 0; phase <= 2; phase++) {
            GelBook x = new GelBook();
            x.lamp(0, 0, 0, 700, phase);
            cueOfAll(x, 1, 100);
            x.go(0);
            for (int other = 0; other <= 2; other++) {
                int due = other == phase ? 700 : 0;
                Check.same("2: phase " + phase + " asks " + other, due, x.asks(0, other));
                Check.same("2: phase " + phase + " loads " + other, due, x.watts(other));
            }
            Check.argument("2: phase 3", () -> x.lamp(0, 0, 0, 100, 3));
            for (int wrong : FAR) {
                Check.argument("2: phase " + wrong, () -> x.lamp(0, 0, 0, 100, wrong));
            }
            Check.same("2: none of these hangs", 1, x.lamp(0, 0, 0, 100, 0));
        }
    }

    /** Promise 2: "Throws IllegalStateException if there are 16", dead ones and those of other houses too. */
    private static void seventeenthLamp() {
        GelBook x = new GelBook();
        for (int i = 0; i < 15; i++) {
            x.lamp(3, 9, 55, 2000, 2);
        }
        Check.same("2: the 16th", 15, x.lamp(0, 0, 0, 100, 0));
        Check.state("2: the 17th", () -> x.lamp(0, 0, 0, 100, 0));
        x.die(15);
        Check.state("2: though one is dead", () -> x.lamp(0, 0, 0, 100, 0));
        x.house(0);
        Check.state("2: though none is usable", () -> x.lamp(0, 0, 0, 100, 0));
        x.house(15);
        Check.same("2: 15 are usable", 15, x.house(15));
    }

    /** "A lamp is dead, or not, as at first": also one that hangs when others are dead. */
    private static void notDeadAtFirst() {
        GelBook x = new GelBook();
        for (int i = 0; i < 16; i++) {
            x.lamp(0, 0, 0, 100, 0);
            Check.same("3: one is usable, " + i, 1, x.house(15));
            Check.same("3: it dies, " + i, true, x.die(i));
        }
        Check.same("3: all are dead", 0, x.house(15));
    }

    /** Promise 3: "Lets a lamp die, or mends it, if it is dead. Returns whether it is dead then." */
    private static void dyingAndMending() {
        GelBook x = new GelBook();
        x.lamp(2, 0, 0, 100, 0);
        x.lamp(2, 0, 0, 100, 0);
        for (int i = 0; i < 5; i++) {
            Check.same("3: dead", true, x.die(1));
            Check.same("3: one is left", 1, x.house(15));
            Check.same("3: mended", false, x.die(1));
            Check.same("3: both are usable", 2, x.house(15));
        }
        x.house(0);
        Check.same("3: it dies without its bar", true, x.die(1));
        Check.same("3: and stays dead with it", 1, x.house(15));
        x.house(0);
        Check.same("3: it is mended without its bar", false, x.die(1));
        Check.same("3: but not usable", 0, x.house(0));
    }

    /** Promise 3: "Throws IndexOutOfBoundsException as told": the first and the last lamp, and those beside them. */
    private static void firstAndLastLampDie() {
        GelBook x = new GelBook();
        for (int i = 0; i < 16; i++) {
            int none = i;
            Check.index("3: no lamp " + i, () -> x.die(none));
            x.lamp(0, 0, 0, 100, 0);
        }
        Check.index("3: no lamp 16", () -> x.die(16));
        for (int wrong : FAR) {
            Check.index("3: no lamp " + wrong, () -> x.die(wrong));
        }
        Check.same("3: none of these died", 16, x.house(15));
        Check.same("3: the first one dies", true, x.die(0));
        Check.same("3: the last one dies", true, x.die(15));
        cueOfAll(x, 16, 1);
        for (int i = 0; i < 16; i++) {
            Check.same("3: who shines for " + i, i == 0 || i == 15 ? GelBook.NONE : i, x.shines(0, i));
        }
    }

    /** Promise 4: "`bars`: 0 to 15: 1 shifted to the left by each bar that is there". */
    private static void houses() {
        GelBook x = new GelBook();
        for (int bar = 0; bar <= 3; bar++) {
            x.lamp(bar, 0, 11 * bar, 100, 0);
        }
        cueOfAll(x, 4, 100);
        for (int there = 0; there <= 15; there++) {
            x.house(there);
            for (int bar = 0; bar <= 3; bar++) {
                Check.same("4: house " + there + ", bar " + bar, (there & 1 << bar) != 0 ? bar : GelBook.NONE,
                        x.shines(0, bar));
            }
        }
        x.house(5);
        for (int wrong : new int[] {16, 17, 31, 32, 255, 256}) {
            Check.argument("4: bars " + wrong, () -> x.house(wrong));
        }
        for (int wrong : FAR) {
            Check.argument("4: bars " + wrong, () -> x.house(wrong));
        }
        Check.same("4: the house is as before: bar 2 is there", 2, x.shines(0, 2));
        Check.same("4: and bar 3 is not", GelBook.NONE, x.shines(0, 3));
    }

    /** Promise 4: "Returns how many lamps are usable then": of none, none of all, and all. */
    private static void usableCount() {
        GelBook x = new GelBook();
        Check.same("4: no lamps", 0, x.house(15));
        Check.same("4: no lamps and no bars", 0, x.house(0));
        for (int i = 0; i < 16; i++) {
            x.lamp(i % 4, 0, 0, 100, 0);
        }
        Check.same("4: no bars", 0, x.house(0));
        Check.same("4: all", 16, x.house(15));
        Check.same("4: the first bar", 4, x.house(1));
        Check.same("4: the last bar", 4, x.house(8));
        x.die(0);
        Check.same("4: less a dead one", 3, x.house(1));
        Check.same("4: which another bar does not miss", 4, x.house(8));
        x.die(15);
        Check.same("4: less the last one", 3, x.house(8));
        Check.same("4: less both", 14, x.house(15));
    }

    /** "A lamp is usable if it is not dead and its bar is there." */
    private static void usable() {
        GelBook x = new GelBook();
        x.lamp(1, 0, 0, 100, 0);
        cueOfAll(x, 1, 100);
        Check.same("4: neither dead nor without its bar", 0, x.shines(0, 0));
        x.house(13);
        Check.same("4: without its bar", GelBook.NONE, x.shines(0, 0));
        x.die(0);
        Check.same("4: both", GelBook.NONE, x.shines(0, 0));
        x.house(2);
        Check.same("4: dead", GelBook.NONE, x.shines(0, 0));
        x.die(0);
        Check.same("4: neither again", 0, x.shines(0, 0));
    }

    /** Promise 5: "`watts`: 0 to 20000. Returns what it was." */
    private static void powerRange() {
        for (int phase = 0; phase <= 2; phase++) {
            int one = phase;
            GelBook x = new GelBook();
            int before = 5000;
            for (int watts : new int[] {0, 20000, 1, 19999, 0, 0, 20000}) {
                Check.same("5: phase " + phase + " watts " + watts, before, x.power(phase, watts));
                before = watts;
            }
            for (int wrong : new int[] {20001, 20002, 100000}) {
                Check.argument("5: watts " + wrong, () -> x.power(one, wrong));
            }
            for (int wrong : FAR) {
                Check.argument("5: watts " + wrong, () -> x.power(one, wrong));
                Check.index("5: phase " + wrong, () -> x.power(wrong, 5));
            }
            Check.index("5: phase 3", () -> x.power(3, 5));
            for (int other = 0; other <= 2; other++) {
                Check.same("5: what it was, " + other, other == phase ? 20000 : 5000, x.power(other, 7));
            }
        }
    }

    /** "A house has [..] a power for each phase, [..] 5000 at first": asked for 5000 a cue goes, for 5001 it does not. */
    private static void powerAtFirst() {
        for (int phase = 0; phase <= 2; phase++) {
            GelBook x = new GelBook();
            for (int watts : new int[] {2000, 2000, 1000, 100}) {
                x.lamp(0, 0, 0, watts, phase);
            }
            cueOfAll(x, 3, 100);
            cueOfAll(x, 3, 100);
            x.level(1, 3, 1);
            Check.same("5: asks", 5001, x.asks(1, phase));
            Check.state("5: 5001 of 5000", () -> x.go(1));
            Check.same("5: asks", 5000, x.asks(0, phase));
            Check.same("5: 5000 of 5000", 1, x.go(0));
        }
    }

    /** "0 to 20000 watts": the most that can be had. */
    private static void powerNotBeyond() {
        for (int phase = 0; phase <= 2; phase++) {
            GelBook x = new GelBook();
            for (int i = 0; i < 10; i++) {
                x.lamp(0, 0, 0, 2000, phase);
            }
            x.lamp(0, 0, 0, 100, phase);
            cueOfAll(x, 10, 100);
            cueOfAll(x, 10, 100);
            x.level(1, 10, 1);
            x.power(phase, 20000);
            Check.state("5: 20001 of 20000", () -> x.go(1));
            Check.same("5: 20000 of 20000", 1, x.go(0));
            x.power(phase, 19999);
            Check.state("5: 20000 of 19999", () -> x.go(0));
        }
    }

    /** "0 to 20000 watts": with 0 watts only what asks for nothing goes. */
    private static void powerOfNothing() {
        for (int phase = 0; phase <= 2; phase++) {
            GelBook x = new GelBook();
            x.lamp(0, 0, 0, 100, phase);
            x.cue(GelBook.HIGHEST, 0, 0);
            cueOfAll(x, 1, 1);
            x.power(phase, 0);
            Check.state("5: 1 of 0", () -> x.go(1));
            Check.same("5: 0 of 0", 1, x.go(0));
            x.die(0);
            Check.same("5: a dead one asks for nothing", 2, x.go(1));
        }
    }

    /** Promise 5: "what goes stays so". */
    private static void powerLeavesWhatGoes() {
        GelBook x = new GelBook();
        x.lamp(0, 0, 0, 1000, 0);
        x.cue(GelBook.HIGHEST, 10, 10);
        x.level(0, 0, 100);
        x.go(0);
        x.pass(5);
        x.power(0, 0);
        Check.same("5: it is active", 1, x.playing(0, 0));
        Check.same("5: it is not released", 0, x.playing(0, 1));
        Check.bits("5: it shines", 50f, x.levelOf(0));
        x.pass(5);
        Check.bits("5: it goes on rising", 100f, x.levelOf(0));
        Check.same("5: with all its watts", 1000, x.watts(0));
        Check.same("5: it is released", true, x.release(0));
        x.pass(5);
        Check.bits("5: and falls", 50f, x.levelOf(0));
        Check.same("5: none is barred", 0, x.barred());
    }

    /** "If several exceptions apply, the one that is named first in the throws clause is thrown": lamp and power. */
    private static void severalExceptions() {
        GelBook x = new GelBook();
        for (int i = 0; i < 16; i++) {
            x.lamp(0, 0, 0, 100, 0);
        }
        Check.argument("2: bar 4 of a 17th", () -> x.lamp(4, 0, 0, 100, 0));
        Check.argument("2: bar -1 of a 17th", () -> x.lamp(-1, 0, 0, 100, 0));
        Check.argument("2: position 10 of a 17th", () -> x.lamp(0, 10, 0, 100, 0));
        Check.argument("2: gel 60 of a 17th", () -> x.lamp(0, 0, 60, 100, 0));
        Check.argument("2: gel 6 of a 17th", () -> x.lamp(0, 0, 6, 100, 0));
        Check.argument("2: watts 99 of a 17th", () -> x.lamp(0, 0, 0, 99, 0));
        Check.argument("2: phase 3 of a 17th", () -> x.lamp(0, 0, 0, 100, 3));
        Check.argument("2: all wrong of a 17th", () -> x.lamp(4, 10, 60, 2001, 3));
        Check.index("5: no phase 3, and watts -1", () -> x.power(3, -1));
        Check.index("5: no phase -1, and watts 20001", () -> x.power(-1, 20001));
    }
}
