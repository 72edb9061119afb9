/** Promises 12 to 19, and the constants: what is asked. */
public final class AnswersTest {
    private static final int[] EXTREMES = {Integer.MIN_VALUE, Integer.MAX_VALUE, -1};

    public static void main(String[] args) {
        constants();
        levelsRise();
        shortTimesAndLowLevels();
        levelsStack();
        levelsByStandIns();
        anew();
        anewInOneTick();
        loads();
        asks();
        shines();
        distances();
        playing();
        barred();
        wrongNumbers();
        Check.end();
    }

    private static GelBook book(int lamps) {
        GelBook x = new GelBook();
        for (int i = 0; i < lamps; i++) {
            x.lamp(0, i % 10, 0, 1000, 0);
        }
        return x;
    }

    private static void constants() {
        Check.same("NONE", -1, GelBook.NONE);
        Check.same("HIGHEST", 0, GelBook.HIGHEST);
        Check.same("LATEST", 1, GelBook.LATEST);
    }

    private static void levelsRise() {
        GelBook x = book(2);
        x.cue(GelBook.HIGHEST, 60, 59);
        x.level(0, 0, 97);
        Check.bits("12: 0.0 at first", 0f, x.levelOf(0));
        x.go(0);
        for (int tick = 1; tick <= 60; tick++) {
            x.pass(1);
            Check.bits("12: rising at " + tick, (float) tick / 60f * 97f, x.levelOf(0));
            Check.bits("12: the other at " + tick, 0f, x.levelOf(1));
        }
        x.pass(9);
        Check.bits("12: at most 1.0", 97f, x.levelOf(0));
        x.release(0);
        for (int tick = 1; tick < 59; tick++) {
            x.pass(1);
            Check.bits("12: falling at " + tick, 1f * (1f - (float) tick / 59f) * 97f, x.levelOf(0));
        }
        x.pass(1);
        Check.bits("12: over", 0f, x.levelOf(0));
        x.cue(GelBook.LATEST, 0, 7);
        x.level(1, 0, 1);
        x.go(1);
        Check.bits("12: at once", 1f, x.levelOf(0));
        x.release(1);
        x.pass(6);
        Check.bits("12: small floats", (1f - 6f / 7f) * 1f, x.levelOf(0));
    }

    private static void shortTimesAndLowLevels() {
        GelBook x = book(2);
        x.cue(GelBook.HIGHEST, 1, 1);
        x.cue(GelBook.LATEST, 1, 2);
        x.level(0, 0, 1);
        x.go(0);
        Check.bits("12: an up time of 1 begins at 0.0", 0f, x.levelOf(0));
        x.pass(1);
        Check.bits("12: and ends a tick later", 1f, x.levelOf(0));
        x.go(1);
        x.pass(1);
        Check.bits("12: a LATEST cue without the lamp does nothing", 1f, x.levelOf(0));
        Check.same("10: a down time of 1", true, x.release(0));
        Check.bits("12: begins at the master", 1f, x.levelOf(0));
        x.pass(1);
        Check.bits("12: and ends a tick later, too", 0f, x.levelOf(0));
    }

    private static void levelsStack() {
        GelBook x = book(1);
        x.cue(GelBook.LATEST, 3, 0);
        x.cue(GelBook.HIGHEST, 7, 0);
        x.cue(GelBook.LATEST, 5, 6);
        x.cue(GelBook.HIGHEST, 0, 0);
        int[] levels = {10, 100, 60, 33};
        for (int i = 0; i < 4; i++) {
            x.level(i, 0, levels[i]);
        }
        for (int cue : new int[] {2, 0, 3, 1}) {
            x.go(cue);
        }
        x.pass(1);
        float level = 33f;
        level = level + 1f / 5f * (60f - level);
        level = level + 1f / 3f * (10f - level);
        Check.bits("12: the highest, then the latest by their order", level, x.levelOf(0));
        Check.same("13: the same", x.levelOf(0), x.levelAnew(0));
        x.pass(2);
        x.release(2);
        x.pass(3);
        level = 6f / 7f * 100f;
        level = level + 3f / 5f * (1f - 3f / 6f) * (60f - level);
        level = level + 1f * (10f - level);
        Check.bits("12: a falling one too", level, x.levelOf(0));
        Check.same("13: the same falling", x.levelOf(0), x.levelAnew(0));
        x.release(0);
        level = 6f / 7f * 100f;
        level = level + 3f / 5f * (1f - 3f / 6f) * (60f - level);
        Check.bits("12: without the one that is over", level, x.levelOf(0));
        Check.same("13: without it too", x.levelOf(0), x.levelAnew(0));
    }

    private static void levelsByStandIns() {
        GelBook x = book(3);
        x.cue(GelBook.HIGHEST, 0, 0);
        x.cue(GelBook.HIGHEST, 0, 0);
        x.level(0, 0, 50);
        x.level(1, 1, 20);
        x.go(0);
        x.go(1);
        x.die(0);
        Check.bits("12: a dead one", 0f, x.levelOf(0));
        Check.bits("12: the higher one of two cues", 50f, x.levelOf(1));
        Check.bits("12: one in between", 0f, x.levelOf(2));
        x.die(1);
        Check.bits("12: one stands in for two, in two cues", 50f, x.levelOf(2));
        x.house(0);
        Check.bits("12: no bars", 0f, x.levelOf(2));
        x.house(1);
        x.die(0);
        x.die(1);
        Check.bits("12: all is as before", 50f, x.levelOf(0));
        Check.bits("12: also the other", 20f, x.levelOf(1));
        GelBook late = book(1);
        late.cue(GelBook.HIGHEST, 0, 0);
        late.level(0, 0, 50);
        late.die(0);
        late.go(0);
        late.lamp(3, 9, 0, 500, 1);
        Check.bits("12: one that was hung later stands in", 50f, late.levelOf(1));
        late.level(0, 1, 5);
        Check.bits("12: until a level is told for it", 5f, late.levelOf(1));
    }

    private static void anew() {
        GelBook x = book(2);
        x.cue(GelBook.HIGHEST, 5, 10);
        x.cue(GelBook.LATEST, 10, 5);
        x.level(0, 0, 90);
        x.level(1, 0, 15);
        Check.same("13: 0.0 at first", 0, x.levelAnew(0));
        int[] goings = {0, 1, 1, 0, 0, 1};
        for (int i = 0; i < goings.length; i++) {
            x.go(goings[i]);
            x.pass(3);
            Check.same("13: the same, " + i, x.levelOf(0), x.levelAnew(0));
            if (i % 2 == 1) {
                x.release(goings[i]);
            }
            x.pass(2);
            Check.same("13: the same later, " + i, x.levelOf(0), x.levelAnew(0));
        }
        x.level(0, 0, 45);
        x.die(0);
        Check.bits("13: by how things are when it is asked", 0f, x.levelAnew(0));
        Check.same("13: the stand-in's", x.levelOf(1), x.levelAnew(1));
        x.pass(20);
        Check.same("13: twenty ticks later", x.levelOf(1), x.levelAnew(1));
        Check.same("13: asking changes nothing", x.levelOf(1), x.levelAnew(1));
        GelBook followed = book(1);
        followed.cue(GelBook.LATEST, 3, 3);
        followed.cue(GelBook.LATEST, 0, 0);
        followed.level(0, 0, 80);
        followed.level(1, 0, 30);
        followed.follow(0, 1, 2);
        followed.follow(1, 0, 2);
        followed.go(0);
        for (int i = 0; i < 50; i++) {
            followed.pass(1);
            Check.same("13: followers, " + i, followed.levelOf(0), followed.levelAnew(0));
        }
    }

    /** Goings and releases of one cue at one tick, between those of others. */
    private static void anewInOneTick() {
        GelBook x = book(1);
        for (int i = 0; i < 3; i++) {
            x.cue(GelBook.LATEST, 2, 4);
            x.level(i, 0, 30 * i + 20);
        }
        x.go(0);
        x.pass(1);
        x.release(0);
        x.go(1);
        x.go(0);
        x.go(2);
        x.release(0);
        x.go(1);
        x.go(0);
        x.pass(1);
        float level = 0.5f * 80f;
        level = level + 0.5f * (50f - level);
        level = level + 0.5f * (20f - level);
        Check.bits("12: the order of one tick", level, x.levelOf(0));
        Check.bits("13: the same order", level, x.levelAnew(0));
        x.release(1);
        x.pass(1);
        Check.same("13: the same after a release", x.levelOf(0), x.levelAnew(0));
    }

    private static void loads() {
        GelBook x = new GelBook();
        int[] watts = {333, 1999, 777, 150};
        for (int i = 0; i < 4; i++) {
            x.lamp(i, 0, 11 * i, watts[i], i == 1 ? 2 : 0);
        }
        x.cue(GelBook.HIGHEST, 7, 7);
        int[] levels = {31, 77, 99, 3};
        for (int i = 0; i < 4; i++) {
            x.level(0, i, levels[i]);
        }
        x.go(0);
        x.pass(3);
        float master = 3f / 7f;
        float load = 0f + 333f * (master * 31f) / 100f;
        load = load + 777f * (master * 99f) / 100f;
        load = load + 150f * (master * 3f) / 100f;
        Check.bits("14: by rising numbers", load, x.loadOf(0));
        Check.same("15: cast to an int", (int) load, x.watts(0));
        Check.bits("14: a phase without lamps", 0f, x.loadOf(1));
        Check.bits("14: another phase", 1999f * (master * 77f) / 100f, x.loadOf(2));
        Check.same("15: another phase", (int) (1999f * (master * 77f) / 100f), x.watts(2));
        x.release(0);
        x.pass(2);
        float falling = master * (1f - 2f / 7f);
        Check.bits("14: falling", 1999f * (falling * 77f) / 100f, x.loadOf(2));
        x.die(1);
        Check.bits("14: a dead one", 0f, x.loadOf(2));
        GelBook full = new GelBook();
        full.cue(GelBook.HIGHEST, 0, 0);
        for (int i = 0; i < 16; i++) {
            full.lamp(0, 0, 0, 2000, 1);
            full.level(0, i, 100);
        }
        full.power(1, 20000);
        Check.same("16: of all", 32000, full.asks(0, 1));
        Check.state("9: more than any power", () -> full.go(0));
        full.cue(GelBook.HIGHEST, 0, 0);
        full.go(1);
        for (int i = 0; i < 16; i++) {
            full.level(1, i, 100);
        }
        Check.bits("14: the greatest load", 32000f, full.loadOf(1));
        Check.same("15: the greatest load", 32000, full.watts(1));
    }

    private static void asks() {
        GelBook x = new GelBook();
        x.lamp(0, 0, 0, 101, 0);
        x.lamp(0, 1, 0, 101, 0);
        x.lamp(0, 2, 0, 900, 1);
        x.cue(GelBook.HIGHEST, 10, 10);
        x.cue(GelBook.LATEST, 10, 10);
        x.level(0, 0, 1);
        Check.same("16: rounded up", 2, x.asks(0, 0));
        x.level(0, 1, 1);
        Check.same("16: rounded up once", 3, x.asks(0, 0));
        x.level(0, 0, 99);
        Check.same("16: and never more", 101, x.asks(0, 0));
        x.level(1, 0, 50);
        x.level(1, 1, 3);
        Check.same("16: its own", 54, x.asks(1, 0));
        x.go(0);
        Check.same("16: the greatest of each lamp", 104, x.asks(1, 0));
        x.go(1);
        Check.same("16: whatever the order, and the master", 104, x.asks(0, 0));
        x.release(0);
        Check.same("16: not those that are released", 54, x.asks(1, 0));
        Check.same("16: but itself", 104, x.asks(0, 0));
        x.level(0, 1, 0);
        x.die(0);
        Check.same("16: stand-ins, of both", 100, x.asks(0, 0));
        Check.same("16: the one that cannot be spared is left out of its phase", 4, x.asks(1, 0));
        Check.same("16: the stand-in's phase", 450, x.asks(1, 1));
        x.house(14);
        Check.same("16: none are usable", 0, x.asks(0, 0));
    }

    private static void shines() {
        GelBook x = new GelBook();
        x.lamp(1, 5, 23, 100, 0);
        x.lamp(1, 4, 23, 100, 0);
        x.lamp(1, 6, 23, 100, 0);
        x.lamp(1, 5, 24, 100, 0);
        x.lamp(1, 5, 13, 100, 0);
        x.lamp(0, 5, 23, 2000, 2);
        x.cue(GelBook.HIGHEST, 0, 0);
        Check.same("17: no level, though usable", GelBook.NONE, x.shines(0, 0));
        x.level(0, 0, 10);
        Check.same("17: itself", 0, x.shines(0, 0));
        x.die(0);
        Check.same("17: the lowest of several", 1, x.shines(0, 0));
        Check.same("17: no level for the one that stands in", GelBook.NONE, x.shines(0, 1));
        x.level(0, 1, 1);
        Check.same("17: one with a level cannot stand in", 2, x.shines(0, 0));
        x.die(1);
        Check.same("17: for the lower one first", 2, x.shines(0, 0));
        Check.same("17: then for the next", 5, x.shines(0, 1));
        x.die(2);
        Check.same("17: the last one", 5, x.shines(0, 0));
        Check.same("17: none is left", GelBook.NONE, x.shines(0, 1));
        x.level(0, 0, 0);
        Check.same("17: none is needed", GelBook.NONE, x.shines(0, 0));
        Check.same("17: so the other has it", 5, x.shines(0, 1));
        x.house(2);
        Check.same("17: other colours and aims do not fit", GelBook.NONE, x.shines(0, 1));
        x.die(1);
        Check.same("17: mended", 1, x.shines(0, 1));
        x.house(13);
        Check.same("17: its bar is not there", 5, x.shines(0, 1));
        x.cue(GelBook.LATEST, 0, 0);
        Check.same("17: another cue", GelBook.NONE, x.shines(1, 1));
    }

    private static void distances() {
        GelBook x = new GelBook();
        x.lamp(1, 0, 0, 100, 0);
        x.lamp(2, 0, 0, 100, 0);
        x.lamp(1, 9, 0, 100, 0);
        x.lamp(3, 0, 0, 100, 0);
        x.lamp(0, 1, 0, 100, 0);
        x.cue(GelBook.HIGHEST, 0, 0);
        x.level(0, 0, 10);
        x.die(0);
        Check.same("17: 9 positions are less than a bar", 2, x.shines(0, 0));
        x.die(2);
        Check.same("17: a bar", 1, x.shines(0, 0));
        x.die(1);
        Check.same("17: a bar and a position, below", 4, x.shines(0, 0));
        x.die(4);
        Check.same("17: two bars", 3, x.shines(0, 0));
        GelBook row = new GelBook();
        for (int position : new int[] {0, 9, 4, 7}) {
            row.lamp(3, position, 55, 100, 0);
        }
        row.cue(GelBook.HIGHEST, 0, 0);
        row.level(0, 3, 10);
        row.die(3);
        Check.same("17: two positions above", 1, row.shines(0, 3));
        row.die(1);
        Check.same("17: three below", 2, row.shines(0, 3));
        row.die(2);
        Check.same("17: lamp 0 stands in too", 0, row.shines(0, 3));
    }

    private static void playing() {
        GelBook x = book(1);
        x.cue(GelBook.HIGHEST, 10, 4);
        int[] notActive = {0, 0, GelBook.NONE, GelBook.NONE};
        for (int what = 0; what < 4; what++) {
            Check.same("18: not active, " + what, notActive[what], x.playing(0, what));
        }
        x.pass(5);
        x.go(0);
        Check.same("18: active", 1, x.playing(0, 0));
        Check.same("18: not released", 0, x.playing(0, 1));
        Check.same("18: went", 5, x.playing(0, 2));
        Check.bits("18: its master", 0f, x.playing(0, 3));
        x.pass(7);
        Check.same("18: went then still", 5, x.playing(0, 2));
        Check.bits("18: its master later", 7f / 10f, x.playing(0, 3));
        x.release(0);
        x.pass(3);
        Check.same("18: active while it falls", 1, x.playing(0, 0));
        Check.same("18: released", 1, x.playing(0, 1));
        Check.same("18: went then, also while it falls", 5, x.playing(0, 2));
        Check.bits("18: its master falling", 7f / 10f * (1f - 3f / 4f), x.playing(0, 3));
        x.pass(1);
        for (int what = 0; what < 4; what++) {
            Check.same("18: over, " + what, notActive[what], x.playing(0, what));
        }
        Check.argument("18: what 4", () -> x.playing(0, 4));
        x.cue(GelBook.HIGHEST, 0, 0);
        x.go(1);
        Check.bits("18: 1.0 at once", 1f, x.playing(1, 3));
        for (int wrong : EXTREMES) {
            Check.argument("18: what " + wrong, () -> x.playing(0, wrong));
            Check.index("18: the cue comes first, " + wrong, () -> x.playing(2, wrong));
        }
    }

    private static void barred() {
        GelBook x = book(1);
        x.cue(GelBook.HIGHEST, 0, 0);
        x.cue(GelBook.HIGHEST, 0, 0);
        x.level(1, 0, 100);
        x.follow(0, 1, 2);
        x.go(0);
        x.go(0);
        x.pass(1);
        x.go(0);
        x.power(0, 999);
        Check.state("19: a go that is refused", () -> x.go(1));
        Check.same("19: does not count", 0, x.barred());
        x.pass(1);
        Check.same("19: each one counts", 2, x.barred());
        x.pass(1);
        Check.same("19: each time", 3, x.barred());
        x.pass(20);
        Check.same("19: no more", 3, x.barred());
    }

    private static void wrongNumbers() {
        GelBook x = book(3);
        x.cue(GelBook.HIGHEST, 0, 0);
        for (int wrong : new int[] {Integer.MIN_VALUE, -1, 3, 16, Integer.MAX_VALUE}) {
            Check.index("12: no lamp " + wrong, () -> x.levelOf(wrong));
            Check.index("13: no lamp " + wrong, () -> x.levelAnew(wrong));
            Check.index("14: no phase " + wrong, () -> x.loadOf(wrong));
            Check.index("15: no phase " + wrong, () -> x.watts(wrong));
            Check.index("16: no phase " + wrong, () -> x.asks(0, wrong));
            Check.index("16: no cue " + wrong, () -> x.asks(wrong, 0));
            Check.index("17: no lamp " + wrong, () -> x.shines(0, wrong));
            Check.index("17: no cue " + wrong, () -> x.shines(wrong, 0));
            Check.index("18: no cue " + wrong, () -> x.playing(wrong, 0));
        }
    }
}
