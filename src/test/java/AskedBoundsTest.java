/** The sentences of 'Going' and of promises 12 to 16 and 19 that name a boundary, and the constants: a test for each. */
public final class AskedBoundsTest {
    private static final int[] FAR = {Integer.MIN_VALUE, Integer.MIN_VALUE + 1, -3, -2, -1, Integer.MAX_VALUE};
    private static final int[] LEVELS = {1, 2, 50, 99, 100};

    public static void main(String[] args) {
        constants();
        levelAtFirst();
        highestIfGreater();
        latestAtItsEnds();
        latestOverHighest();
        latestWithoutTheLamp();
        twelveCues();
        everyLevelRises();
        lampNumbers();
        anewOfNothing();
        anewOfTheSameTick();
        anewOfReleases();
        anewOfTheOver();
        anewOfFollowers();
        anewOfBarredAndRefused();
        anewAsThingsAre();
        loadOfNone();
        loadOfAll();
        loadByRisingNumbers();
        wattsByACast();
        phaseNumbers();
        asksRoundedUpOnce();
        asksOfNone();
        asksOfAll();
        asksTheGreatest();
        asksWhatIsNotReleased();
        asksNumbers();
        barredAtFirst();
        barredCounts();
        Check.end();
    }

    /** Lamps of 1000 watts on the phase 0. */
    private static GelBook book(int lamps) {
        GelBook x = new GelBook();
        for (int i = 0; i < lamps; i++) {
            x.lamp(0, i % 10, 0, 1000, 0);
        }
        x.power(0, 20000);
        return x;
    }

    private static int cue(GelBook x, int sort, int up, int down, int level) {
        int cue = x.cue(sort, up, down);
        if (level > 0) {
            x.level(cue, 0, level);
        }
        return cue;
    }

    private static void both(String what, float due, GelBook x, int lamp) {
        Check.bits("12: " + what, due, x.levelOf(lamp));
        Check.bits("13: " + what, due, x.levelAnew(lamp));
    }

    /** "`NONE = -1`", "`HIGHEST = 0, LATEST = 1`". */
    private static void constants() {
        Check.same("NONE", -1, GelBook.NONE);
        Check.same("HIGHEST", 0, GelBook.HIGHEST);
        Check.same("LATEST", 1, GelBook.LATEST);
    }

    /** "The level of a lamp is a float: 0.0 at first": without cues, with cues that do not go, and a tick later. */
    private static void levelAtFirst() {
        GelBook x = book(1);
        both("no cues", 0f, x, 0);
        cue(x, GelBook.HIGHEST, 0, 0, 100);
        both("none goes", 0f, x, 0);
        x.pass(20);
        both("nor later", 0f, x, 0);
        x.go(0);
        both("one goes", 100f, x, 0);
        x.lamp(0, 0, 0, 100, 0);
        both("a new lamp", 0f, x, 1);
    }

    /** "for each active HIGHEST cue that has it, [..] its master times its level [..], if that is greater". */
    private static void highestIfGreater() {
        for (int one : LEVELS) {
            for (int other : LEVELS) {
                GelBook x = book(1);
                cue(x, GelBook.HIGHEST, 0, 0, one);
                cue(x, GelBook.HIGHEST, 0, 0, other);
                x.go(0);
                both("level " + one, (float) one, x, 0);
                x.go(1);
                both("level " + one + " and then " + other, (float) (one > other ? one : other), x, 0);
            }
        }
        GelBook rising = book(1);
        cue(rising, GelBook.HIGHEST, 0, 0, 50);
        cue(rising, GelBook.HIGHEST, 10, 0, 100);
        rising.go(0);
        rising.go(1);
        for (int tick = 1; tick <= 10; tick++) {
            rising.pass(1);
            float own = (float) tick / 10f * 100f;
            both("rising past the other at " + tick, own > 50f ? own : 50f, rising, 0);
        }
    }

    /** "for each active LATEST cue [..] plus its master times what its level [..] less that level is": of 0.0 and 1.0. */
    private static void latestAtItsEnds() {
        for (int below : LEVELS) {
            for (int level : LEVELS) {
                GelBook x = book(1);
                cue(x, GelBook.HIGHEST, 0, 0, below);
                cue(x, GelBook.LATEST, 2, 2, level);
                x.go(0);
                x.go(1);
                String what = level + " over " + below;
                both(what + ", at 0.0", (float) below, x, 0);
                x.pass(1);
                both(what + ", at 0.5", (float) below + 0.5f * ((float) level - (float) below), x, 0);
                x.pass(1);
                both(what + ", at 1.0", (float) level, x, 0);
                x.release(1);
                x.pass(1);
                both(what + ", falling", (float) below + 0.5f * ((float) level - (float) below), x, 0);
                x.pass(1);
                both(what + ", over", (float) below, x, 0);
            }
        }
    }

    /** "0.0 at first; then, for each active HIGHEST [..]; then, for each active LATEST": whichever began first. */
    private static void latestOverHighest() {
        GelBook x = book(1);
        cue(x, GelBook.LATEST, 0, 0, 30);
        cue(x, GelBook.HIGHEST, 0, 0, 90);
        cue(x, GelBook.LATEST, 4, 0, 1);
        x.go(2);
        x.go(0);
        x.pass(1);
        both("the one that began last", 30f, x, 0);
        x.go(1);
        both("a HIGHEST one that began later", 30f, x, 0);
        x.release(0);
        both("the rising one alone", 90f + 0.25f * (1f - 90f), x, 0);
        x.release(2);
        both("the HIGHEST one alone", 90f, x, 0);
    }

    /** "that has it": a LATEST cue without a level for the lamp, or whose lamp has died, leaves it as it is. */
    private static void latestWithoutTheLamp() {
        GelBook x = book(2);
        cue(x, GelBook.HIGHEST, 0, 0, 70);
        cue(x, GelBook.LATEST, 0, 0, 0);
        x.level(1, 1, 20);
        x.go(0);
        x.go(1);
        both("no level for it", 70f, x, 0);
        both("but for the other", 20f, x, 1);
        x.level(1, 0, 5);
        both("a level for it", 5f, x, 0);
        x.level(1, 0, 0);
        both("no level any more", 70f, x, 0);
        x.level(0, 1, 60);
        x.die(0);
        both("a dead lamp", 0f, x, 0);
        both("the other has its own", 20f, x, 1);
    }

    /** Twelve active cues, six of each sort. */
    private static void twelveCues() {
        GelBook x = book(1);
        for (int i = 0; i < 12; i++) {
            cue(x, i % 2, 3 + i, 20, 97 - 7 * i);
        }
        for (int i = 11; i >= 0; i--) {
            x.go(i);
        }
        for (int tick = 1; tick <= 15; tick++) {
            x.pass(1);
            float level = 0f;
            for (int i = 10; i >= 0; i -= 2) {
                float own = master(tick, 3 + i) * (97f - 7f * (float) i);
                level = own > level ? own : level;
            }
            for (int i = 11; i >= 0; i -= 2) {
                level = level + master(tick, 3 + i) * (97f - 7f * (float) i - level);
            }
            both("twelve cues at " + tick, level, x, 0);
        }
    }

    private static float master(int ticks, int up) {
        return ticks < up ? (float) ticks / (float) up : 1f;
    }

    /** Each level from 1 to 100 at each tick of an up time of 60: the bits of the float, as floatToIntBits() has them. */
    private static void everyLevelRises() {
        for (int level = 1; level <= 100; level++) {
            GelBook x = book(1);
            cue(x, GelBook.HIGHEST, 60, 60, level);
            x.go(0);
            for (int tick = 0; tick <= 60; tick++) {
                Check.bits("12: level " + level + " at " + tick, (float) tick / 60f * (float) level, x.levelOf(0));
                x.pass(1);
            }
        }
    }

    /** Promises 12 and 13: "Throws IndexOutOfBoundsException as told". */
    private static void lampNumbers() {
        GelBook x = book(15);
        Check.index("12: no lamp 15 yet", () -> x.levelOf(15));
        Check.index("13: no lamp 15 yet", () -> x.levelAnew(15));
        x.lamp(0, 0, 0, 100, 0);
        int cue = x.cue(GelBook.HIGHEST, 0, 0);
        x.level(cue, 0, 3);
        x.level(cue, 15, 4);
        x.go(cue);
        both("the first lamp", 3f, x, 0);
        both("the last lamp", 4f, x, 15);
        for (int wrong : new int[] {16, 17, 32}) {
            Check.index("12: no lamp " + wrong, () -> x.levelOf(wrong));
            Check.index("13: no lamp " + wrong, () -> x.levelAnew(wrong));
        }
        for (int wrong : FAR) {
            Check.index("12: no lamp " + wrong, () -> x.levelOf(wrong));
            Check.index("13: no lamp " + wrong, () -> x.levelAnew(wrong));
        }
    }

    /** Promise 13: "a list of all goings and releases since the beginning": an empty one. */
    private static void anewOfNothing() {
        GelBook x = book(16);
        for (int i = 0; i < 16; i++) {
            Check.bits("13: no goings", 0f, x.levelAnew(i));
        }
        x.pass(20);
        Check.bits("13: nor later", 0f, x.levelAnew(15));
    }

    /** The same: several goings of one cue at one tick, with the first entries of the list, and those of others between. */
    private static void anewOfTheSameTick() {
        GelBook x = book(1);
        for (int i = 0; i < 3; i++) {
            cue(x, GelBook.LATEST, 2, 0, 10 + 30 * i);
        }
        x.go(0);
        x.go(1);
        x.go(2);
        x.go(0);
        x.go(1);
        x.go(0);
        x.pass(1);
        float level = 0.5f * 70f;
        level = level + 0.5f * (40f - level);
        level = level + 0.5f * (10f - level);
        both("each where it went last", level, x, 0);
        x.go(2);
        x.pass(2);
        both("the last of all", 70f, x, 0);
        x.go(1);
        x.release(1);
        x.go(1);
        x.pass(1);
        both("released and gone at one tick", 70f + 0.5f * (40f - 70f), x, 0);
        x.go(1);
        x.release(1);
        both("gone and released at one tick", 70f, x, 0);
    }

    /** The same: releases on the way up, at the top, and of goings that are over since long. */
    private static void anewOfReleases() {
        for (int sort = GelBook.HIGHEST; sort <= GelBook.LATEST; sort++) {
            for (int released = 0; released <= 4; released++) {
                for (int down : new int[] {0, 1, 4}) {
                    anewOfRelease(sort, released, down);
                }
            }
        }
    }

    private static void anewOfRelease(int sort, int released, int down) {
        String what = "sort " + sort + ", released after " + released + ", down " + down;
        GelBook x = book(1);
        cue(x, sort, 3, down, 90);
        x.go(0);
        for (int i = 0; i < released; i++) {
            x.pass(1);
        }
        x.release(0);
        for (int tick = 0; tick <= 7; tick++) {
            float due = tick < down ? master(released, 3) * (1f - (float) tick / (float) down) * 90f : 0f;
            both(what + ", at " + tick, due, x, 0);
            x.pass(1);
        }
        x.go(0);
        x.pass(1);
        both(what + ", gone again", 1f / 3f * 90f, x, 0);
    }

    /** The same: a going that is over takes nothing from what is below it, however long ago that was. */
    private static void anewOfTheOver() {
        for (int down : new int[] {0, 1, 2, 60}) {
            GelBook x = book(1);
            cue(x, GelBook.HIGHEST, 0, 0, 50);
            cue(x, GelBook.LATEST, 0, down, 90);
            x.go(0);
            x.go(1);
            x.release(1);
            for (int i = 0; i < down; i++) {
                x.pass(1);
            }
            both("over now, down " + down, 50f, x, 0);
            x.pass(1);
            both("over a tick ago, down " + down, 50f, x, 0);
            x.pass(20);
            both("over long ago, down " + down, 50f, x, 0);
        }
    }

    /** The same: goings of those that follow are on the list too. */
    private static void anewOfFollowers() {
        GelBook x = book(1);
        cue(x, GelBook.HIGHEST, 0, 0, 20);
        cue(x, GelBook.LATEST, 40, 0, 100);
        x.follow(0, 1, 3);
        x.follow(1, 1, 60);
        x.go(0);
        x.pass(20);
        both("it followed", 20f + 17f / 40f * (100f - 20f), x, 0);
        x.pass(20);
        x.pass(20);
        x.pass(2);
        both("at its top", 100f, x, 0);
        x.pass(1);
        both("it followed itself", 20f, x, 0);
        x.pass(1);
        both("and rises", 20f + 1f / 40f * (100f - 20f), x, 0);
    }

    /** The same: what was barred, and what was refused, is not on the list. */
    private static void anewOfBarredAndRefused() {
        GelBook x = book(1);
        cue(x, GelBook.HIGHEST, 0, 0, 20);
        cue(x, GelBook.LATEST, 0, 0, 100);
        x.power(0, 999);
        x.follow(0, 1, 1);
        x.go(0);
        Check.state("13: refused", () -> x.go(1));
        both("refused", 20f, x, 0);
        x.pass(1);
        Check.same("19: barred", 1, x.barred());
        both("barred", 20f, x, 0);
        Check.state("13: not active", () -> x.release(1));
        x.power(0, 1000);
        both("nor later", 20f, x, 0);
        x.pass(20);
        both("nor much later", 20f, x, 0);
    }

    /** Promise 13: "Returns the same": by levels and lamps as they are now, not as they were. */
    private static void anewAsThingsAre() {
        GelBook x = book(2);
        cue(x, GelBook.HIGHEST, 0, 0, 20);
        x.go(0);
        x.level(0, 0, 100);
        both("the new level", 100f, x, 0);
        x.die(0);
        both("it is dead", 0f, x, 0);
        both("the other stands in", 100f, x, 1);
        x.house(14);
        both("no bar", 0f, x, 1);
        x.house(15);
        x.die(0);
        both("as before", 100f, x, 0);
        x.power(0, 0);
        both("without power", 100f, x, 0);
    }

    /** "The load of a phase is a float: [..] added to 0.0": of no lamps, of dark ones, and of those of others. */
    private static void loadOfNone() {
        GelBook x = new GelBook();
        for (int phase = 0; phase <= 2; phase++) {
            Check.bits("14: no lamps", 0f, x.loadOf(phase));
            Check.same("15: no lamps", 0, x.watts(phase));
        }
        x.lamp(0, 0, 0, 2000, 1);
        cue(x, GelBook.HIGHEST, 5, 0, 100);
        Check.bits("14: a dark lamp", 0f, x.loadOf(1));
        x.go(0);
        Check.bits("14: at a master of 0.0", 0f, x.loadOf(1));
        x.pass(5);
        Check.bits("14: alight", 2000f, x.loadOf(1));
        Check.bits("14: the phase below", 0f, x.loadOf(0));
        Check.bits("14: the phase above", 0f, x.loadOf(2));
        x.house(0);
        Check.bits("14: without its bar", 0f, x.loadOf(1));
    }

    /** All sixteen at once, in one phase: more than any power, which is told lower only later. */
    private static void loadOfAll() {
        GelBook x = new GelBook();
        x.cue(GelBook.HIGHEST, 0, 0);
        x.go(0);
        for (int i = 0; i < 16; i++) {
            x.lamp(i % 4, i % 10, i % 6, 2000, 2);
            x.level(0, i, 100);
            Check.bits("14: lamps of 2000 watts", 2000f * (float) (i + 1), x.loadOf(2));
            Check.same("15: in whole watts", 2000 * (i + 1), x.watts(2));
        }
        Check.bits("14: none of another phase", 0f, x.loadOf(1));
    }

    /** "for each lamp of it, by rising numbers, its watts, as a float, times its level, divided by 100.0". */
    private static void loadByRisingNumbers() {
        GelBook x = new GelBook();
        int[] watts = {1999, 107, 1001, 333, 1777, 101, 1313, 997};
        x.cue(GelBook.HIGHEST, 59, 0);
        for (int i = 0; i < watts.length; i++) {
            x.lamp(0, i, 0, watts[i], i == 3 ? 1 : 0);
            x.level(0, i, 99 - 11 * i);
        }
        x.power(0, 20000);
        x.go(0);
        for (int tick = 1; tick <= 60; tick++) {
            x.pass(1);
            float load = 0f;
            for (int i = 0; i < watts.length; i++) {
                if (i != 3) {
                    load = load + (float) watts[i] * (master(tick, 59) * (float) (99 - 11 * i)) / 100f;
                }
            }
            Check.bits("14: at " + tick, load, x.loadOf(0));
            Check.same("15: at " + tick, (int) load, x.watts(0));
        }
    }

    /** Promise 15: "in whole watts, by a cast to an int": neither rounded nor up. */
    private static void wattsByACast() {
        GelBook x = new GelBook();
        x.lamp(0, 0, 0, 199, 0);
        x.lamp(0, 0, 1, 150, 1);
        x.lamp(0, 0, 2, 100, 2);
        x.cue(GelBook.HIGHEST, 2, 0);
        for (int i = 0; i < 3; i++) {
            x.level(0, i, 1);
        }
        x.go(0);
        x.pass(1);
        Check.same("15: 0.995", 0, x.watts(0));
        x.pass(1);
        Check.same("15: 1.99", 1, x.watts(0));
        Check.same("15: 1.5", 1, x.watts(1));
        Check.same("15: 1.0", 1, x.watts(2));
        x.level(0, 2, 100);
        Check.same("15: 100.0", 100, x.watts(2));
        x.level(0, 1, 99);
        Check.same("15: 148.5", 148, x.watts(1));
    }

    /** Promises 14 and 15: "Throws IndexOutOfBoundsException as told". */
    private static void phaseNumbers() {
        GelBook x = new GelBook();
        x.cue(GelBook.HIGHEST, 0, 0);
        for (int phase = 0; phase <= 2; phase++) {
            x.lamp(0, 0, phase, 100 + phase, phase);
            x.level(0, phase, 100);
        }
        x.go(0);
        for (int phase = 0; phase <= 2; phase++) {
            Check.bits("14: phase " + phase, 100f + (float) phase, x.loadOf(phase));
            Check.same("15: phase " + phase, 100 + phase, x.watts(phase));
        }
        for (int wrong : new int[] {3, 4, 16}) {
            Check.index("14: no phase " + wrong, () -> x.loadOf(wrong));
            Check.index("15: no phase " + wrong, () -> x.watts(wrong));
        }
        for (int wrong : FAR) {
            Check.index("14: no phase " + wrong, () -> x.loadOf(wrong));
            Check.index("15: no phase " + wrong, () -> x.watts(wrong));
        }
    }

    /** "that sum divided by 100, rounded up once": each rest from 0 to 99, of one lamp and of two. */
    private static void asksRoundedUpOnce() {
        for (int watts = 100; watts <= 300; watts++) {
            GelBook x = new GelBook();
            x.lamp(0, 0, 0, watts, 0);
            x.lamp(0, 0, 0, watts, 0);
            x.cue(GelBook.LATEST, 60, 60);
            x.level(0, 0, 1);
            int due = watts <= 100 ? 1 : watts <= 200 ? 2 : 3;
            Check.same("16: one of " + watts, due, x.asks(0, 0));
            x.level(0, 1, 1);
            int sum = 2 * watts;
            due = 0;
            while (100 * due < sum) {
                due++;
            }
            Check.same("16: two of " + watts, due, x.asks(0, 0));
            x.level(0, 0, 100);
            x.level(0, 1, 100);
            Check.same("16: both whole", sum, x.asks(0, 0));
        }
    }

    /** What asks for nothing: no lamps, no levels, no usable ones. */
    private static void asksOfNone() {
        GelBook x = new GelBook();
        x.cue(GelBook.HIGHEST, 0, 0);
        for (int phase = 0; phase <= 2; phase++) {
            Check.same("16: no lamps", 0, x.asks(0, phase));
        }
        x.lamp(0, 0, 0, 2000, 1);
        Check.same("16: no levels", 0, x.asks(0, 1));
        x.level(0, 0, 100);
        Check.same("16: of its phase", 2000, x.asks(0, 1));
        Check.same("16: not of the one below", 0, x.asks(0, 0));
        Check.same("16: nor above", 0, x.asks(0, 2));
        x.die(0);
        Check.same("16: a dead one", 0, x.asks(0, 1));
        x.die(0);
        x.house(14);
        Check.same("16: one without its bar", 0, x.asks(0, 1));
    }

    /** "the sum, over all lamps of that": of sixteen, more than any power, though it cannot go. */
    private static void asksOfAll() {
        GelBook x = new GelBook();
        x.cue(GelBook.HIGHEST, 0, 0);
        for (int i = 0; i < 16; i++) {
            x.lamp(i % 4, 0, 0, 2000, 0);
            x.level(0, i, 100);
            Check.same("16: lamps " + (i + 1), 2000 * (i + 1), x.asks(0, 0));
        }
        x.power(0, 20000);
        Check.state("9: it cannot go", () -> x.go(0));
        x.level(0, 0, 1);
        Check.same("16: the first one at 1", 30020, x.asks(0, 0));
        x.level(0, 15, 1);
        Check.same("16: the last one at 1", 28040, x.asks(0, 0));
    }

    /** "the greatest level that the cue itself, or an active one [..], has for the lamp": for each lamp its own. */
    private static void asksTheGreatest() {
        for (int one : LEVELS) {
            for (int other : LEVELS) {
                GelBook x = book(1);
                cue(x, GelBook.HIGHEST, 60, 0, one);
                cue(x, GelBook.LATEST, 60, 0, other);
                Check.same("16: alone", 10 * one, x.asks(0, 0));
                x.go(1);
                int greatest = one > other ? one : other;
                Check.same("16: the greater of " + one + " and " + other, 10 * greatest, x.asks(0, 0));
                x.go(0);
                Check.same("16: also if both go", 10 * greatest, x.asks(0, 0));
                Check.same("16: and of the other", 10 * greatest, x.asks(1, 0));
            }
        }
        GelBook y = book(2);
        cue(y, GelBook.HIGHEST, 0, 0, 30);
        cue(y, GelBook.HIGHEST, 0, 0, 10);
        y.level(0, 1, 5);
        y.level(1, 1, 50);
        y.go(1);
        Check.same("16: of each lamp the greatest", 800, y.asks(0, 0));
    }

    /** "or an active one that is not released": neither one that falls, nor one that is over, but the cue itself. */
    private static void asksWhatIsNotReleased() {
        GelBook x = book(1);
        cue(x, GelBook.HIGHEST, 0, 2, 80);
        cue(x, GelBook.HIGHEST, 0, 0, 10);
        Check.same("16: one that does not go", 100, x.asks(1, 0));
        x.go(0);
        Check.same("16: one that goes", 800, x.asks(1, 0));
        x.release(0);
        Check.same("16: one that falls", 100, x.asks(1, 0));
        Check.same("16: the one that falls itself", 800, x.asks(0, 0));
        x.pass(2);
        Check.same("16: one that is over", 100, x.asks(1, 0));
        x.go(0);
        Check.same("16: it goes again", 800, x.asks(1, 0));
    }

    /** Promise 16: "Throws IndexOutOfBoundsException as told, of both". */
    private static void asksNumbers() {
        GelBook x = book(1);
        for (int i = 0; i < 12; i++) {
            Check.index("16: no cue yet", () -> x.asks(x.cue(GelBook.HIGHEST, 0, 0) + 1, 0));
        }
        Check.same("16: the last of both", 0, x.asks(11, 2));
        Check.same("16: the first of both", 0, x.asks(0, 0));
        for (int wrong : new int[] {3, 4, 12}) {
            Check.index("16: no phase " + wrong, () -> x.asks(0, wrong));
        }
        for (int wrong : new int[] {12, 13, 16}) {
            Check.index("16: no cue " + wrong, () -> x.asks(wrong, 0));
        }
        for (int wrong : FAR) {
            Check.index("16: no phase " + wrong, () -> x.asks(0, wrong));
            Check.index("16: no cue " + wrong, () -> x.asks(wrong, 0));
            Check.index("16: neither " + wrong, () -> x.asks(wrong, wrong));
        }
    }

    /** Promise 19: none at first, nor by calls that are refused, nor by followers that go. */
    private static void barredAtFirst() {
        GelBook x = book(1);
        Check.same("19: at first", 0, x.barred());
        cue(x, GelBook.HIGHEST, 0, 0, 100);
        x.power(0, 999);
        for (int i = 0; i < 3; i++) {
            Check.state("9: refused", () -> x.go(0));
        }
        Check.same("19: a go that is refused", 0, x.barred());
        x.power(0, 1000);
        x.follow(0, 0, 1);
        x.go(0);
        x.pass(20);
        Check.same("19: followers that go", 0, x.barred());
    }

    /** Promise 19: "how many cues that were to follow were barred": each one, each time, at one tick and at several. */
    private static void barredCounts() {
        GelBook x = book(1);
        cue(x, GelBook.HIGHEST, 0, 0, 100);
        cue(x, GelBook.HIGHEST, 0, 0, 0);
        x.follow(1, 0, 20);
        x.power(0, 0);
        for (int i = 0; i < 20; i++) {
            x.go(1);
            x.go(1);
            x.pass(1);
            Check.same("19: none is due, " + i, i == 19 ? 2 : 0, x.barred());
        }
        for (int i = 1; i < 20; i++) {
            x.pass(1);
            Check.same("19: two more, " + i, 2 + 2 * i, x.barred());
        }
        x.pass(20);
        Check.same("19: no more", 40, x.barred());
    }
}
