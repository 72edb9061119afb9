/** Promises 1 to 5: a new object, lamp, die, house, power. */
public final class LampsTest {
    private static final int[] EXTREMES = {Integer.MIN_VALUE, -1, Integer.MAX_VALUE};

    public static void main(String[] args) {
        newObject();
        lampNumbers();
        lampRanges();
        sixteenLamps();
        die();
        house();
        power();
        Check.end();
    }

    private static void newObject() {
        GelBook x = new GelBook();
        Check.index("1: no lamps", () -> x.levelOf(0));
        Check.index("1: no cues", () -> x.playing(0, 0));
        Check.same("1: none barred", 0, x.barred());
        Check.same("1: no load", 0, x.loadOf(2));
        Check.same("1: no watts", 0, x.watts(0));
        Check.same("1: the tick is 0 at first", 7, x.pass(7));
        GelBook bars = new GelBook();
        for (int bar = 0; bar < 4; bar++) {
            bars.lamp(bar, 0, 0, 100, 0);
        }
        bars.cue(0, 0, 0);
        for (int bar = 0; bar < 4; bar++) {
            bars.level(0, bar, 1);
            Check.same("1: all bars are there", bar, bars.shines(0, bar));
        }
        for (int phase = 0; phase < 3; phase++) {
            Check.same("1: 5000 watts at first", 5000, x.power(phase, 1));
        }
        GelBook other = new GelBook();
        Check.same("1: objects have nothing in common", 5000, other.power(0, 1));
    }

    private static void lampNumbers() {
        GelBook x = new GelBook();
        Check.same("2: the first lamp", 0, x.lamp(0, 0, 0, 100, 0));
        Check.same("2: the second, at the ends of all ranges", 1, x.lamp(3, 9, 55, 2000, 2));
        Check.same("2: the third, at the place of the second", 2, x.lamp(3, 9, 55, 2000, 2));
        x.cue(0, 0, 0);
        x.level(0, 1, 100);
        Check.same("2: not dead at first", 1, x.shines(0, 1));
        Check.same("2: its watts and phase", 2000, x.asks(0, 2));
        Check.same("2: no other phase", 0, x.asks(0, 1));
    }

    private static void lampRanges() {
        GelBook x = new GelBook();
        for (int wrong : EXTREMES) {
            Check.argument("2: bar " + wrong, () -> x.lamp(wrong, 0, 0, 100, 0));
            Check.argument("2: position " + wrong, () -> x.lamp(0, wrong, 0, 100, 0));
            Check.argument("2: gel " + wrong, () -> x.lamp(0, 0, wrong, 100, 0));
            Check.argument("2: watts " + wrong, () -> x.lamp(0, 0, 0, wrong, 0));
            Check.argument("2: phase " + wrong, () -> x.lamp(0, 0, 0, 100, wrong));
        }
        Check.argument("2: bar 4", () -> x.lamp(4, 0, 0, 100, 0));
        Check.argument("2: position 10", () -> x.lamp(0, 10, 0, 100, 0));
        Check.argument("2: watts 99", () -> x.lamp(0, 0, 0, 99, 0));
        Check.argument("2: watts 2001", () -> x.lamp(0, 0, 0, 2001, 0));
        Check.argument("2: phase 3", () -> x.lamp(0, 0, 0, 100, 3));
        int number = 0;
        for (int gel = -60; gel < 120; gel++) {
            int asked = gel;
            if (gel < 0 || gel > 59 || gel % 10 > 5) {
                Check.argument("2: gel " + gel, () -> x.lamp(0, 0, asked, 100, 0));
            } else if (number < 16) {
                Check.same("2: gel " + gel, number, x.lamp(0, 0, gel, 100, 0));
                number++;
            }
        }
        Check.same("2: gel 55", 0, new GelBook().lamp(0, 0, 55, 100, 0));
    }

    private static void sixteenLamps() {
        GelBook x = new GelBook();
        for (int i = 0; i < 16; i++) {
            Check.same("2: lamp " + i, i, x.lamp(i % 4, i % 10, 0, 100, 0));
        }
        Check.state("2: a 17th lamp", () -> x.lamp(0, 0, 0, 100, 0));
        Check.argument("2: a wrong 17th lamp", () -> x.lamp(0, 0, 6, 100, 0));
        Check.same("2: still 16", 16, x.house(15));
        Check.same("2: the last one is there", 0, x.levelOf(15));
        Check.index("2: the 17th is not", () -> x.levelOf(16));
    }

    private static void die() {
        GelBook x = new GelBook();
        x.lamp(0, 0, 0, 100, 0);
        x.lamp(0, 1, 1, 100, 0);
        Check.same("3: it dies", true, x.die(0));
        Check.same("3: it is not usable", 1, x.house(15));
        Check.same("3: it is mended", false, x.die(0));
        Check.same("3: it is usable", 2, x.house(15));
        Check.same("3: it dies again", true, x.die(0));
        Check.same("3: the other dies", true, x.die(1));
        Check.index("3: no lamp 2", () -> x.die(2));
        for (int wrong : EXTREMES) {
            Check.index("3: no lamp " + wrong, () -> x.die(wrong));
        }
    }

    private static void house() {
        GelBook x = new GelBook();
        Check.same("4: no lamps", 0, x.house(15));
        for (int bar = 0; bar < 4; bar++) {
            for (int i = 0; i < bar + 1; i++) {
                x.lamp(bar, i, 0, 100, 0);
            }
        }
        for (int bars = 0; bars < 16; bars++) {
            int due = (bars & 1) + (bars & 2) + (bars >> 2 & 1) * 3 + (bars >> 3) * 4;
            Check.same("4: bars " + bars, due, x.house(bars));
        }
        Check.argument("4: bars 16", () -> x.house(16));
        for (int wrong : EXTREMES) {
            Check.argument("4: bars " + wrong, () -> x.house(wrong));
        }
        x.die(9);
        Check.same("4: without the dead one", 3, x.house(8));
        x.die(0);
        Check.same("4: a dead one of a bar that is not there", 3, x.house(8));
        x.cue(0, 0, 0);
        x.level(0, 3, 50);
        x.house(7);
        Check.argument("4: nothing changes", () -> x.house(-8));
        Check.same("4: the house is as before", 3, x.shines(0, 3));
    }

    private static void power() {
        GelBook x = new GelBook();
        Check.same("5: at first", 5000, x.power(1, 20000));
        Check.same("5: the greatest", 20000, x.power(1, 0));
        Check.same("5: the least", 0, x.power(1, 700));
        Check.same("5: another phase", 5000, x.power(2, 0));
        Check.argument("5: too much", () -> x.power(1, 20001));
        Check.argument("5: below 0", () -> x.power(1, -1));
        Check.index("5: no phase 3", () -> x.power(3, 0));
        for (int wrong : EXTREMES) {
            Check.index("5: no phase " + wrong, () -> x.power(wrong, 0));
            Check.index("5: the phase comes first, " + wrong, () -> x.power(wrong, -1));
            Check.argument("5: watts " + wrong, () -> x.power(0, wrong));
        }
        Check.same("5: nothing changed", 700, x.power(1, 1));
        GelBook goes = new GelBook();
        goes.lamp(0, 0, 0, 1000, 0);
        goes.cue(0, 0, 0);
        goes.level(0, 0, 100);
        goes.go(0);
        goes.power(0, 0);
        Check.same("5: what goes stays so", 1000, goes.watts(0));
        goes.pass(1);
        Check.same("5: what goes stays so later", 1, goes.playing(0, 0));
        Check.state("5: but it cannot go again", () -> goes.go(0));
    }
}
