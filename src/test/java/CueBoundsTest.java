/** The sentences of 'Cues' and of promises 6 to 8 and 17 that name a boundary: a test for each. */
public final class CueBoundsTest {
    private static final int[] FAR = {Integer.MIN_VALUE, Integer.MIN_VALUE + 1, -3, -2, Integer.MAX_VALUE};
    private static final int NONE = GelBook.NONE;

    public static void main(String[] args) {
        cueNumbers();
        sorts();
        upTimes();
        downTimes();
        thirteenthCue();
        withoutLevels();
        levelRange();
        levelsOfSomeLamps();
        levelNumbers();
        followTicks();
        followNumbers();
        followByNone();
        followInPlaceOfOne();
        goingsOfBefore();
        lampsThatItHas();
        byRisingNumbers();
        onlyUsableStandIn();
        ownColourAndAim();
        noLevelToldForIt();
        leastDistance();
        lowestOfSeveral();
        farthest();
        noneStandsIn();
        eightForEight();
        firstForLast();
        levelOfTheStandIn();
        asThingsAre();
        shinesNumbers();
        severalExceptions();
        Check.end();
    }

    /** Lamps of one gel, at bars and positions that are told as 10 times the bar and the position together. */
    private static GelBook hung(int... places) {
        GelBook x = new GelBook();
        for (int place : places) {
            x.lamp(place / 10, place % 10, 34, 100, 0);
        }
        x.cue(GelBook.HIGHEST, 0, 0);
        return x;
    }

    private static GelBook full() {
        GelBook x = hung(0, 0, 0, 0, 0, 0, 0, 0, 0, 0, 0, 0, 0, 0, 0, 0);
        for (int i = 1; i < 12; i++) {
            x.cue(GelBook.HIGHEST, 0, 0);
        }
        return x;
    }

    private static void shine(String what, GelBook x, int... due) {
        for (int i = 0; i < due.length; i++) {
            Check.same(what + ", lamp " + i, due[i], x.shines(0, i));
        }
    }

    /** "Cues are numbered from 0, at most 12": with each one there is one number more, and no other. */
    private static void cueNumbers() {
        GelBook x = new GelBook();
        for (int count = 0; count < 12; count++) {
            int next = count;
            Check.index("6: none yet " + count, () -> x.go(next));
            Check.same("6: cue " + count, count, x.cue(GelBook.HIGHEST, 0, 0));
            Check.same("6: it goes " + count, count + 1, x.go(count));
        }
        Check.index("6: no cue 12", () -> x.go(12));
        Check.index("6: no cue -1", () -> x.go(-1));
    }

    /** Promise 6: "`sort`: HIGHEST or LATEST". */
    private static void sorts() {
        GelBook x = hung(0);
        x.cue(GelBook.HIGHEST, 0, 0);
        x.cue(GelBook.LATEST, 0, 0);
        for (int i = 0; i < 3; i++) {
            x.level(i, 0, i == 0 ? 50 : 20);
        }
        x.go(0);
        x.go(1);
        Check.bits("6: HIGHEST leaves what is higher", 50f, x.levelOf(0));
        x.go(2);
        Check.bits("6: LATEST does not", 20f, x.levelOf(0));
        for (int wrong : new int[] {-1, 2, 3}) {
            Check.argument("6: sort " + wrong, () -> x.cue(wrong, 0, 0));
        }
        for (int wrong : FAR) {
            Check.argument("6: sort " + wrong, () -> x.cue(wrong, 0, 0));
        }
        Check.same("6: none of these is made", 3, x.cue(GelBook.LATEST, 0, 0));
    }

    /** Promise 6: "`up`: 0 to 60". */
    private static void upTimes() {
        GelBook x = new GelBook();
        int[] times = {0, 1, 59, 60};
        for (int i = 0; i < times.length; i++) {
            Check.same("6: up " + times[i], i, x.cue(GelBook.HIGHEST, times[i], 0));
            x.go(i);
        }
        for (int wrong : new int[] {-1, 61, 62, 100}) {
            Check.argument("6: up " + wrong, () -> x.cue(GelBook.HIGHEST, wrong, 0));
        }
        for (int wrong : FAR) {
            Check.argument("6: up " + wrong, () -> x.cue(GelBook.HIGHEST, wrong, 0));
        }
        Check.same("6: none of these is made", 4, x.cue(GelBook.HIGHEST, 0, 0));
        x.pass(1);
        for (int i = 0; i < times.length; i++) {
            float due = times[i] < 2 ? 1f : 1f / (float) times[i];
            Check.bits("6: up " + times[i] + " after a tick", due, x.playing(i, 3));
        }
    }

    /** Promise 6: "`down`: 0 to 60". */
    private static void downTimes() {
        GelBook x = new GelBook();
        int[] times = {0, 1, 59, 60};
        for (int i = 0; i < times.length; i++) {
            Check.same("6: down " + times[i], i, x.cue(GelBook.HIGHEST, 0, times[i]));
            x.go(i);
            Check.same("6: active still, down " + times[i], times[i] > 0, x.release(i));
        }
        for (int wrong : new int[] {-1, 61, 62, 100}) {
            Check.argument("6: down " + wrong, () -> x.cue(GelBook.HIGHEST, 0, wrong));
        }
        for (int wrong : FAR) {
            Check.argument("6: down " + wrong, () -> x.cue(GelBook.HIGHEST, 0, wrong));
        }
        Check.same("6: none of these is made", 4, x.cue(GelBook.HIGHEST, 0, 0));
        for (int tick = 1; tick <= 61; tick++) {
            x.pass(1);
            for (int i = 0; i < times.length; i++) {
                Check.same("6: down " + times[i] + " at " + tick, tick < times[i] ? 1 : 0, x.playing(i, 0));
            }
        }
    }

    /** Promise 6: "Throws IllegalStateException if there are 12", active or not. */
    private static void thirteenthCue() {
        GelBook x = new GelBook();
        for (int i = 0; i < 11; i++) {
            x.cue(i % 2, 60, 60);
        }
        Check.same("6: the 12th", 11, x.cue(GelBook.LATEST, 60, 60));
        Check.state("6: the 13th", () -> x.cue(GelBook.HIGHEST, 0, 0));
        x.go(11);
        Check.state("6: though one goes", () -> x.cue(GelBook.LATEST, 60, 60));
        Check.index("6: it is not there", () -> x.playing(12, 0));
        Check.same("6: the 12th is", 1, x.playing(11, 0));
    }

    /** Promise 6: "Makes a cue without levels", also when others have them and lamps are there. */
    private static void withoutLevels() {
        GelBook x = hung(0, 1);
        x.level(0, 0, 100);
        x.level(0, 1, 100);
        int cue = x.cue(GelBook.LATEST, 0, 0);
        for (int lamp = 0; lamp < 2; lamp++) {
            Check.same("6: none shines", NONE, x.shines(cue, lamp));
            Check.same("6: no level", 0, x.level(cue, lamp, 0));
        }
        Check.same("6: asks for nothing", 0, x.asks(cue, 0));
        Check.same("6: it goes", 1, x.go(cue));
        Check.bits("6: and does nothing", 0f, x.levelOf(0));
    }

    /** Promise 7: "`level`: 1 to 100; 0 for none any more. Returns what it was, 0 for none." */
    private static void levelRange() {
        GelBook x = hung(0);
        x.go(0);
        int before = 0;
        for (int level : new int[] {0, 1, 100, 0, 100, 99, 1, 2, 0, 0}) {
            Check.same("7: level " + level, before, x.level(0, 0, level));
            Check.bits("7: it shines by " + level, (float) level, x.levelOf(0));
            Check.same("7: by level " + level, level == 0 ? NONE : 0, x.shines(0, 0));
            before = level;
        }
        x.level(0, 0, 42);
        for (int wrong : new int[] {-1, 101, 102, 256, 1000}) {
            Check.argument("7: level " + wrong, () -> x.level(0, 0, wrong));
        }
        for (int wrong : FAR) {
            Check.argument("7: level " + wrong, () -> x.level(0, 0, wrong));
        }
        Check.bits("7: none of these is told", 42f, x.levelOf(0));
        Check.same("7: it was 42", 42, x.level(0, 0, 42));
    }

    /** "levels [..] for some lamps": for none, for one, for the first and the last, and for all. */
    private static void levelsOfSomeLamps() {
        GelBook x = full();
        x.power(0, 20000);
        x.go(0);
        for (int i = 0; i < 16; i++) {
            Check.bits("7: none yet, " + i, 0f, x.levelOf(i));
            Check.same("7: none before, " + i, 0, x.level(0, i, 100 - i));
            Check.bits("7: told, " + i, 100f - (float) i, x.levelOf(i));
        }
        for (int i = 0; i < 16; i++) {
            Check.same("7: all are told, " + i, i, x.shines(0, i));
            Check.same("7: none in another cue, " + i, NONE, x.shines(11, i));
        }
        x.level(11, 15, 7);
        Check.same("7: the last lamp of the last cue", 15, x.shines(11, 15));
        Check.same("7: what it was", 7, x.level(11, 15, 0));
        Check.same("7: the first cue's is as it was", 85, x.level(0, 15, 1));
    }

    /** Promise 7: "Throws IndexOutOfBoundsException as told, of both". */
    private static void levelNumbers() {
        GelBook x = full();
        for (int wrong : new int[] {-1, 16, 17}) {
            Check.index("7: no lamp " + wrong, () -> x.level(0, wrong, 5));
        }
        for (int wrong : new int[] {-1, 12, 13, 15}) {
            Check.index("7: no cue " + wrong, () -> x.level(wrong, 0, 5));
        }
        for (int wrong : FAR) {
            Check.index("7: no lamp " + wrong, () -> x.level(0, wrong, 5));
            Check.index("7: no cue " + wrong, () -> x.level(wrong, 0, 5));
        }
        Check.same("7: the last of both", 0, x.level(11, 15, 5));
        Check.same("7: the first of both", 0, x.level(0, 0, 5));
        GelBook y = hung(0, 0);
        Check.index("7: no lamp 2 yet", () -> y.level(0, 2, 5));
        Check.index("7: no cue 1 yet", () -> y.level(1, 0, 5));
        y.lamp(0, 0, 0, 100, 0);
        Check.same("7: lamp 2 now", 0, y.level(0, 2, 5));
    }

    /** Promise 8: "`ticks`: 1 to 60" behind its going. */
    private static void followTicks() {
        for (int ticks : new int[] {1, 2, 59, 60}) {
            GelBook x = hung(0);
            x.cue(GelBook.HIGHEST, 0, 0);
            x.pass(3);
            Check.same("8: ticks " + ticks, NONE, x.follow(0, 1, ticks));
            x.go(0);
            for (int i = 1; i < ticks; i++) {
                x.pass(1);
                Check.same("8: not yet, " + ticks + " at " + i, 0, x.playing(1, 0));
            }
            x.pass(1);
            Check.same("8: ticks " + ticks + " behind", 3 + ticks, x.playing(1, 2));
            for (int wrong : new int[] {-1, 0, 61, 62}) {
                Check.argument("8: ticks " + wrong, () -> x.follow(0, 1, wrong));
            }
            for (int wrong : FAR) {
                Check.argument("8: ticks " + wrong, () -> x.follow(0, 1, wrong));
            }
        }
    }

    /** Promise 8: "Throws IndexOutOfBoundsException as told, of both". */
    private static void followNumbers() {
        GelBook x = full();
        for (int wrong : new int[] {-2, 12, 13}) {
            Check.index("8: no other " + wrong, () -> x.follow(0, wrong, 1));
        }
        for (int wrong : new int[] {-1, 12, 13}) {
            Check.index("8: no cue " + wrong, () -> x.follow(wrong, 0, 1));
        }
        for (int wrong : FAR) {
            Check.index("8: no other " + wrong, () -> x.follow(0, wrong, 1));
            Check.index("8: no cue " + wrong, () -> x.follow(wrong, 0, 1));
        }
        Check.index("8: neither", () -> x.follow(12, 12, 1));
        Check.same("8: the last by the first", NONE, x.follow(11, 0, 1));
        Check.same("8: the first by the last", NONE, x.follow(0, 11, 1));
        x.go(11);
        x.pass(1);
        Check.same("8: the first is there", 1, x.playing(0, 2));
        x.pass(1);
        Check.same("8: then the last", 2, x.playing(11, 2));
        GelBook y = hung(0);
        Check.index("8: no cue 1 yet", () -> y.follow(0, 1, 1));
        y.cue(GelBook.HIGHEST, 0, 0);
        Check.same("8: cue 1 now", NONE, y.follow(0, 1, 1));
    }

    /** Promise 8: "`other`: a cue, or NONE for none". */
    private static void followByNone() {
        GelBook x = hung(0);
        x.cue(GelBook.HIGHEST, 0, 0);
        Check.same("8: none for none", NONE, x.follow(0, NONE, 1));
        x.go(0);
        x.follow(0, 1, 1);
        x.follow(0, NONE, 60);
        x.go(0);
        x.pass(20);
        x.pass(20);
        x.pass(20);
        x.pass(1);
        Check.same("8: none follows", 0, x.playing(1, 0));
        Check.same("8: nor is one barred", 0, x.barred());
        Check.argument("8: ticks 0 for none", () -> x.follow(0, NONE, 0));
        Check.argument("8: ticks 61 for none", () -> x.follow(0, NONE, 61));
    }

    /** Promise 8: "in place of one. Returns the one before, NONE for none." */
    private static void followInPlaceOfOne() {
        GelBook x = full();
        int before = NONE;
        for (int other : new int[] {11, 0, 5, NONE, NONE, 11}) {
            Check.same("8: before " + other, before, x.follow(5, other, 1));
            before = other;
        }
        Check.same("8: other cues have their own", NONE, x.follow(4, 3, 1));
        x.follow(5, 6, 2);
        x.go(5);
        x.pass(20);
        Check.same("8: the one in place goes", 2, x.playing(6, 2));
        Check.same("8: the one before does not", 0, x.playing(11, 0));
        x.follow(6, 6, 5);
        x.follow(6, 6, 1);
        x.go(6);
        x.pass(4);
        Check.same("8: by the ticks in place", 24, x.playing(6, 2));
    }

    /** Promise 8: "goings of before stay as they are": neither more nor less is to follow them. */
    private static void goingsOfBefore() {
        GelBook x = hung(0);
        x.cue(GelBook.HIGHEST, 0, 0);
        x.cue(GelBook.HIGHEST, 0, 0);
        x.go(0);
        x.follow(0, 1, 1);
        x.pass(2);
        Check.same("8: none follows a going of before", 0, x.playing(1, 0));
        x.go(0);
        x.follow(0, 2, 3);
        x.pass(1);
        Check.same("8: the one before follows", 3, x.playing(1, 2));
        x.pass(2);
        Check.same("8: the other one does not", 0, x.playing(2, 0));
        x.go(0);
        x.follow(0, NONE, 1);
        x.pass(3);
        Check.same("8: also if none is to follow later", 8, x.playing(2, 2));
    }

    /** "The lamps that a cue has are those for which it tells a level, if they are usable." */
    private static void lampsThatItHas() {
        GelBook x = hung(0, 10, 20);
        x.level(0, 0, 1);
        x.level(0, 2, 100);
        shine("17: it has two", x, 0, NONE, 2);
        x.house(0);
        shine("17: it has none", x, NONE, NONE, NONE);
        x.house(5);
        shine("17: both again", x, 0, NONE, 2);
        x.level(0, 0, 0);
        x.level(0, 2, 0);
        shine("17: none is told", x, NONE, NONE, NONE);
    }

    /** "In the place of each that is not usable, by rising numbers": the lower one has the first choice. */
    private static void byRisingNumbers() {
        GelBook x = hung(1, 2, 3, 9);
        x.level(0, 0, 10);
        x.level(0, 1, 10);
        x.die(1);
        x.die(0);
        shine("17: the lower one takes what is near to both", x, 2, 3, NONE, NONE);
        x.die(0);
        shine("17: the higher one, if the lower one is mended", x, 0, 2, NONE, NONE);
    }

    /** "of the usable ones": neither a dead one, nor one whose bar is missing. */
    private static void onlyUsableStandIn() {
        GelBook x = hung(0, 1, 10, 29);
        x.level(0, 0, 10);
        x.die(0);
        shine("17: the nearest", x, 1);
        x.die(1);
        shine("17: not a dead one", x, 2);
        x.house(13);
        shine("17: not one whose bar is missing", x, 3);
        x.house(9);
        shine("17: no usable one", x, NONE);
    }

    /** "with its colour and its aim": not with one of them, nor with the two swapped. */
    private static void ownColourAndAim() {
        for (int gel : new int[] {0, 5, 50, 55, 12}) {
            GelBook x = new GelBook();
            x.lamp(0, 0, gel, 100, 0);
            int swapped = gel % 10 * 10 + gel / 10;
            x.lamp(0, 0, gel == swapped ? 23 : swapped, 100, 0);
            x.lamp(0, 0, gel % 10 == 5 ? gel - 1 : gel + 1, 100, 0);
            x.lamp(0, 0, gel / 10 == 5 ? gel - 10 : gel + 10, 100, 0);
            x.cue(GelBook.HIGHEST, 0, 0);
            x.level(0, 0, 10);
            x.die(0);
            shine("17: none fits " + gel, x, NONE);
            x.lamp(3, 9, gel, 100, 0);
            shine("17: the far one fits " + gel, x, 4);
        }
    }

    /** "for which the cue tells no level": 1 is one, 0 is none; another cue's does not count. */
    private static void noLevelToldForIt() {
        GelBook x = hung(0, 1, 2);
        x.level(0, 0, 100);
        x.level(0, 1, 1);
        x.cue(GelBook.HIGHEST, 0, 0);
        x.level(1, 2, 100);
        x.die(0);
        shine("17: past the one with a level", x, 2, 1, NONE);
        x.level(0, 1, 0);
        shine("17: the level is told no more", x, 1, NONE, NONE);
        x.level(0, 1, 1);
        x.die(1);
        x.die(2);
        shine("17: those with a level are not usable either", x, NONE, NONE, NONE);
        x.die(1);
        shine("17: a usable one with a level stands in for none", x, NONE, 1, NONE);
    }

    /** "the distance of two lamps is 10 times how far their bars are apart, and how far their positions are": each pair. */
    private static void leastDistance() {
        int[] places = {0, 9, 10, 19, 20, 29, 30, 39, 4, 15, 25, 34};
        for (int from : places) {
            for (int near : places) {
                for (int far : places) {
                    int one = distance(from, near);
                    int other = distance(from, far);
                    GelBook x = hung(from, near, far);
                    x.level(0, 0, 10);
                    x.die(0);
                    shine("17: from " + from + " to " + near + " or " + far, x, one <= other ? 1 : 2);
                }
            }
        }
    }

    private static int distance(int from, int to) {
        int bars = from / 10 - to / 10;
        int positions = from % 10 - to % 10;
        return 10 * (bars < 0 ? -bars : bars) + (positions < 0 ? -positions : positions);
    }

    /** "of several the lowest", on whichever side they are. */
    private static void lowestOfSeveral() {
        GelBook x = hung(15, 16, 14, 16, 14);
        x.level(0, 0, 10);
        x.die(0);
        shine("17: the lowest of four", x, 1);
        x.die(1);
        shine("17: of three", x, 2);
        x.die(2);
        shine("17: of two", x, 3);
        GelBook y = hung(5, 25, 15);
        y.level(0, 2, 10);
        y.die(2);
        Check.same("17: a bar below and a bar above", 0, y.shines(0, 2));
        GelBook same = hung(0, 0, 0, 0);
        same.level(0, 1, 10);
        same.die(1);
        Check.same("17: at the same place", 0, same.shines(0, 1));
        same.level(0, 0, 5);
        Check.same("17: then the next", 2, same.shines(0, 1));
    }

    /** The greatest distance there is, 39, and the least, 0. */
    private static void farthest() {
        GelBook x = hung(0, 39);
        x.level(0, 0, 10);
        x.die(0);
        shine("17: the farthest stands in", x, 1);
        x.lamp(3, 8, 34, 100, 0);
        shine("17: 38 is less", x, 2);
        x.lamp(0, 0, 34, 100, 0);
        shine("17: 0 is the least", x, 3);
        GelBook y = hung(39, 0);
        y.level(0, 0, 10);
        y.die(0);
        shine("17: also the other way", y, 1);
    }

    /** "If there is none, that level is left out": the others are not, and it is there again later. */
    private static void noneStandsIn() {
        GelBook x = hung(0, 1, 2);
        for (int i = 0; i < 3; i++) {
            x.level(0, i, 10 + i);
        }
        x.go(0);
        x.die(1);
        shine("17: left out", x, 0, NONE, 2);
        Check.bits("17: no level", 0f, x.levelOf(1));
        Check.bits("17: the lower one has its own", 10f, x.levelOf(0));
        Check.bits("17: the higher one too", 12f, x.levelOf(2));
        Check.same("17: and only these are asked for", 22, x.asks(0, 0));
        Check.same("17: it is told still", 11, x.level(0, 1, 11));
        x.lamp(0, 3, 34, 100, 0);
        shine("17: a new lamp stands in", x, 0, 3, 2, NONE);
        Check.bits("17: with the level", 11f, x.levelOf(3));
    }

    /** All sixteen: eight are dead, and the eight others stand in, by rising numbers. */
    private static void eightForEight() {
        GelBook x = full();
        for (int i = 0; i < 8; i++) {
            x.level(0, 2 * i, 10 + i);
            x.die(2 * i);
        }
        for (int i = 0; i < 8; i++) {
            Check.same("17: the next one for " + 2 * i, 2 * i + 1, x.shines(0, 2 * i));
            Check.same("17: none for " + (2 * i + 1), NONE, x.shines(0, 2 * i + 1));
        }
        x.die(15);
        Check.same("17: seven for eight", NONE, x.shines(0, 14));
        Check.same("17: the one before has one", 13, x.shines(0, 12));
    }

    /** The last lamp stands in for the first one, and the first for the last. */
    private static void firstForLast() {
        GelBook x = full();
        for (int i = 0; i < 15; i++) {
            x.level(0, i, 10);
            x.level(1, i + 1, 10);
        }
        x.die(0);
        Check.same("17: the last for the first", 15, x.shines(0, 0));
        x.die(0);
        x.die(15);
        Check.same("17: the first for the last", 0, x.shines(1, 15));
        x.die(0);
        Check.same("17: neither", NONE, x.shines(0, 0));
        Check.same("17: nor here", NONE, x.shines(1, 15));
    }

    /** "One that stands in has that level": the least and the greatest, and it asks by its own watts and phase. */
    private static void levelOfTheStandIn() {
        for (int level : new int[] {1, 100}) {
            GelBook x = new GelBook();
            x.lamp(0, 0, 34, 2000, 0);
            x.lamp(0, 0, 34, 300, 2);
            x.cue(GelBook.HIGHEST, 0, 0);
            x.level(0, 0, level);
            x.go(0);
            x.die(0);
            Check.bits("17: its level " + level, (float) level, x.levelOf(1));
            Check.bits("17: the dead one has none", 0f, x.levelOf(0));
            Check.same("17: its watts", 3 * level, x.asks(0, 2));
            Check.same("17: not the dead one's", 0, x.asks(0, 0));
            Check.same("17: told is none for it", 0, x.level(0, 1, 0));
        }
    }

    /** "All this is by how things are at the time when it is asked." */
    private static void asThingsAre() {
        GelBook x = hung(0, 10);
        x.level(0, 0, 40);
        x.go(0);
        Check.bits("17: itself", 40f, x.levelOf(0));
        x.die(0);
        Check.bits("17: the other at once", 40f, x.levelOf(1));
        x.house(1);
        Check.bits("17: no more", 0f, x.levelOf(1));
        x.house(15);
        x.lamp(0, 1, 34, 100, 0);
        Check.bits("17: a nearer one at once", 40f, x.levelOf(2));
        Check.bits("17: in place of the farther", 0f, x.levelOf(1));
        x.level(0, 2, 5);
        Check.bits("17: its own level at once", 5f, x.levelOf(2));
        Check.bits("17: so the farther again", 40f, x.levelOf(1));
        x.level(0, 0, 0);
        Check.bits("17: no more needed", 0f, x.levelOf(1));
        x.level(0, 0, 60);
        x.die(0);
        Check.bits("17: mended", 60f, x.levelOf(0));
        Check.bits("17: so none stands in", 0f, x.levelOf(1));
    }

    /** Promise 17: "Throws IndexOutOfBoundsException as told, of both". */
    private static void shinesNumbers() {
        GelBook x = full();
        for (int wrong : new int[] {-1, 16, 17}) {
            Check.index("17: no lamp " + wrong, () -> x.shines(11, wrong));
        }
        for (int wrong : new int[] {-1, 12, 15}) {
            Check.index("17: no cue " + wrong, () -> x.shines(wrong, 11));
        }
        for (int wrong : FAR) {
            Check.index("17: no lamp " + wrong, () -> x.shines(0, wrong));
            Check.index("17: no cue " + wrong, () -> x.shines(wrong, 0));
        }
        Check.same("17: the last of both", NONE, x.shines(11, 15));
        x.level(11, 15, 3);
        Check.same("17: the last of both has it", 15, x.shines(11, 15));
        GelBook y = hung(0);
        Check.index("17: no lamp 1 yet", () -> y.shines(0, 1));
        Check.index("17: no cue 1 yet", () -> y.shines(1, 0));
    }

    /** "If several exceptions apply, the one that is named first [..] is thrown": cue, level and follow. */
    private static void severalExceptions() {
        GelBook x = full();
        Check.argument("6: sort 2 of a 13th", () -> x.cue(2, 0, 0));
        Check.argument("6: sort -1 of a 13th", () -> x.cue(-1, 0, 0));
        Check.argument("6: up 61 of a 13th", () -> x.cue(0, 61, 0));
        Check.argument("6: down -1 of a 13th", () -> x.cue(0, 0, -1));
        Check.state("6: only a 13th", () -> x.cue(0, 60, 60));
        Check.index("7: no lamp 16, and level 101", () -> x.level(0, 16, 101));
        Check.index("7: no cue 12, and level -1", () -> x.level(12, 0, -1));
        Check.index("7: neither, and level 101", () -> x.level(-1, -1, 101));
        Check.index("8: no other 12, and ticks 0", () -> x.follow(0, 12, 0));
        Check.index("8: no cue 12, and ticks 61", () -> x.follow(12, 0, 61));
        Check.index("8: no cue -1 by none, and ticks 0", () -> x.follow(-1, NONE, 0));
    }
}
