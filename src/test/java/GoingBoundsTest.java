/** The sentences of 'Going' and of promises 9 to 11 and 18 that name a boundary: a test for each. */
public final class GoingBoundsTest {
    private static final int[] FAR = {Integer.MIN_VALUE, Integer.MIN_VALUE + 1, -3, -2, -1, Integer.MAX_VALUE};
    private static final int[] TIMES = {0, 1, 2, 3, 7, 59, 60};
    private static final int NONE = GelBook.NONE;

    public static void main(String[] args) {
        tickZero();
        risingMaster();
        fallingMaster();
        fallingIsExact();
        overAtOnce();
        overOnItsTick();
        inPlaceOfTheFormer();
        againWhileItFalls();
        orderOfGoings();
        goCount();
        goNumbers();
        goesUpToThePower();
        powerOfOtherPhases();
        powerOfTheLastPhase();
        releaseAnswer();
        releaseOfTheInactive();
        releaseNumbers();
        passRange();
        passOneBehindTheOther();
        goesAtItsTick();
        followersInPass();
        sixtyTicksBehind();
        notedSeveralTimes();
        inTheOrderNoted();
        barredAndNotTriedAgain();
        asThingsAreWhenDue();
        releasedMeanwhile();
        overBeforeOthersGo();
        followsItself();
        playingRange();
        playingOfTheInactive();
        playingNumbers();
        Check.end();
    }

    /** A lamp of 1000 watts in each phase, each of its own gel, and cues of the sort and the times. */
    private static GelBook book(int cues, int sort, int up, int down) {
        GelBook x = new GelBook();
        for (int phase = 0; phase < 3; phase++) {
            x.lamp(0, 0, phase, 1000, phase);
        }
        for (int i = 0; i < cues; i++) {
            x.cue(sort, up, down);
        }
        return x;
    }

    private static float risen(int ticks, int up) {
        if (ticks >= up) {
            return 1f;
        }
        return (float) ticks / (float) up;
    }

    private static void passAll(GelBook x, int ticks) {
        for (int left = ticks; left > 0; left -= 20) {
            x.pass(left < 20 ? left : 20);
        }
    }

    /** "The tick is 0 at first": what goes before any tick has passed went at 0, and rises from there. */
    private static void tickZero() {
        GelBook x = book(1, GelBook.HIGHEST, 2, 0);
        x.go(0);
        Check.same("18: it went at 0", 0, x.playing(0, 2));
        Check.bits("18: from 0.0", 0f, x.playing(0, 3));
        x.pass(1);
        Check.same("18: it went at 0 still", 0, x.playing(0, 2));
        Check.bits("18: after a tick", 0.5f, x.playing(0, 3));
    }

    /** "with the up time 0 it is 1.0; otherwise the ticks since it went [..] divided by the up time [..] at most 1.0". */
    private static void risingMaster() {
        for (int up = 0; up <= 60; up++) {
            GelBook x = book(1, GelBook.HIGHEST, up, 60);
            x.pass(2);
            x.go(0);
            Check.bits("18: up " + up + " at once", up == 0 ? 1f : 0f, x.playing(0, 3));
            for (int ticks = 1; ticks <= 62; ticks++) {
                x.pass(1);
                Check.bits("18: up " + up + " after " + ticks, risen(ticks, up), x.playing(0, 3));
            }
        }
    }

    /** "Falling, it is the master of the tick when it was released, times 1.0 less the ticks since then [..]". */
    private static void fallingMaster() {
        for (int up : TIMES) {
            for (int down : TIMES) {
                for (int released : new int[] {0, 1, up - 1, up, up + 1, 61}) {
                    if (released >= 0) {
                        fall("18: up " + up + ", released after " + released + ", down " + down, up, released, down);
                    }
                }
            }
        }
    }

    private static void fall(String what, int up, int released, int down) {
        GelBook x = book(1, GelBook.LATEST, up, down);
        x.pass(1);
        x.go(0);
        passAll(x, released);
        float top = risen(released, up);
        Check.bits(what + ": its master", top, x.playing(0, 3));
        Check.same(what + ": active still", down > 0, x.release(0));
        for (int ticks = 0; ticks <= down + 1; ticks++) {
            boolean active = ticks < down;
            Check.same(what + ": active at " + ticks, active ? 1 : 0, x.playing(0, 0));
            Check.same(what + ": released at " + ticks, active ? 1 : 0, x.playing(0, 1));
            Check.same(what + ": went, at " + ticks, active ? 1 : NONE, x.playing(0, 2));
            if (active) {
                Check.bits(what + ": master at " + ticks, top * (1f - (float) ticks / (float) down), x.playing(0, 3));
            } else {
                Check.same(what + ": no master at " + ticks, NONE, x.playing(0, 3));
            }
            x.pass(1);
        }
    }

    /** "All numbers with a point here are floats": where another order of the same sum gives another float. */
    private static void fallingIsExact() {
        GelBook x = book(1, GelBook.HIGHEST, 3, 3);
        x.level(0, 0, 5);
        x.go(0);
        x.pass(1);
        float third = 1f / 3f;
        Check.bits("12: master times level", third * 5f, x.levelOf(0));
        x.release(0);
        x.pass(1);
        Check.bits("18: a third of a third less", third * (1f - third), x.playing(0, 3));
        Check.bits("12: master times level, falling", third * (1f - third) * 5f, x.levelOf(0));
    }

    /** "when as many ticks as the down time have gone by, at once if that is 0, the going is over". */
    private static void overAtOnce() {
        GelBook x = book(2, GelBook.HIGHEST, 60, 0);
        x.level(0, 0, 100);
        x.go(0);
        x.go(1);
        Check.same("10: over at the tick at which it went", false, x.release(0));
        Check.same("10: not active", 0, x.playing(0, 0));
        Check.same("9: nor counted", 1, x.go(1));
        passAll(x, 60);
        x.go(0);
        passAll(x, 60);
        Check.bits("12: at its top", 100f, x.levelOf(0));
        Check.same("10: over from its top", false, x.release(0));
        Check.bits("12: at once", 0f, x.levelOf(0));
        Check.same("14: also for the load", 0, x.loadOf(0));
    }

    /** The same, of 1 tick and of 60: neither a tick sooner nor a tick later, in one pass or in several. */
    private static void overOnItsTick() {
        for (int down : new int[] {1, 2, 20, 21, 59, 60}) {
            GelBook x = book(2, GelBook.HIGHEST, 0, down);
            x.go(0);
            Check.same("10: active still", true, x.release(0));
            passAll(x, down - 1);
            Check.same("11: one tick before, down " + down, 1, x.playing(0, 0));
            Check.same("9: it counts", 2, x.go(1));
            x.pass(1);
            Check.same("11: on the tick, down " + down, 0, x.playing(0, 0));
            Check.same("9: it counts no more", 1, x.go(1));
        }
    }

    /** "A cue that goes at a tick is active from then on, in place of its former going". */
    private static void inPlaceOfTheFormer() {
        GelBook x = book(1, GelBook.HIGHEST, 10, 10);
        x.level(0, 0, 100);
        x.go(0);
        passAll(x, 10);
        Check.bits("9: the former one is at its top", 100f, x.levelOf(0));
        Check.same("9: only one is active", 1, x.go(0));
        Check.bits("9: it begins at 0.0", 0f, x.levelOf(0));
        Check.same("9: it went now", 10, x.playing(0, 2));
        x.pass(1);
        Check.bits("9: one tick on", 1f / 10f * 100f, x.levelOf(0));
        Check.same("9: again at the same tick", 1, x.go(0));
        Check.same("9: and again", 1, x.go(0));
        Check.same("9: now", 11, x.playing(0, 2));
    }

    /** The same, if the former going falls, or falls on its last tick, or is over. */
    private static void againWhileItFalls() {
        for (int ticks = 0; ticks <= 5; ticks++) {
            GelBook x = book(1, GelBook.HIGHEST, 0, 4);
            x.go(0);
            x.release(0);
            passAll(x, ticks);
            Check.same("9: one is active, " + ticks, 1, x.go(0));
            Check.same("9: not released, " + ticks, 0, x.playing(0, 1));
            Check.bits("9: whole, " + ticks, 1f, x.playing(0, 3));
            passAll(x, 5);
            Check.bits("9: it does not fall, " + ticks, 1f, x.playing(0, 3));
            Check.same("10: it can be released, " + ticks, true, x.release(0));
            x.pass(3);
            Check.same("10: by its own tick, " + ticks, 1, x.playing(0, 0));
            x.pass(1);
            Check.same("10: over by its own tick, " + ticks, 0, x.playing(0, 0));
        }
    }

    /** "Goings have an order, that in which they began": of twelve at one tick; a release moves none. */
    private static void orderOfGoings() {
        GelBook x = book(12, GelBook.LATEST, 0, 2);
        for (int i = 0; i < 12; i++) {
            x.level(i, 0, 10 + i);
        }
        int[] order = {3, 11, 0, 7, 1, 2, 10, 4, 9, 5, 8, 6};
        for (int cue : order) {
            x.go(cue);
            Check.bits("12: the latest stands, " + cue, 10f + (float) cue, x.levelOf(0));
        }
        x.go(3);
        Check.bits("12: the first one again", 13f, x.levelOf(0));
        x.release(8);
        Check.bits("12: a release moves none", 13f, x.levelOf(0));
        x.go(6);
        x.release(6);
        x.pass(1);
        Check.bits("12: half of the last over the one before", 13f + 0.5f * (16f - 13f), x.levelOf(0));
        x.pass(1);
        Check.bits("12: the one before", 13f, x.levelOf(0));
        x.release(3);
        x.pass(2);
        Check.bits("12: then the last that is left", 15f, x.levelOf(0));
    }

    /** Promise 9: "Returns how many cues are active then, released ones too": one, and all twelve. */
    private static void goCount() {
        GelBook x = book(12, GelBook.HIGHEST, 0, 60);
        for (int i = 0; i < 12; i++) {
            Check.same("9: active", i + 1, x.go(i));
            x.release(i);
        }
        Check.same("9: all", 12, x.go(11));
        passAll(x, 60);
        Check.same("9: all the others are over", 2, x.go(0));
    }

    /** Promise 9: "Throws IndexOutOfBoundsException as told". */
    private static void goNumbers() {
        GelBook x = book(11, GelBook.HIGHEST, 0, 0);
        Check.index("9: no cue 11 yet", () -> x.go(11));
        x.cue(GelBook.HIGHEST, 0, 0);
        Check.same("9: the last one", 1, x.go(11));
        Check.same("9: the first one", 2, x.go(0));
        for (int wrong : new int[] {12, 13, 16}) {
            Check.index("9: no cue " + wrong, () -> x.go(wrong));
        }
        for (int wrong : FAR) {
            Check.index("9: no cue " + wrong, () -> x.go(wrong));
        }
        Check.same("9: none of these went", 3, x.go(1));
    }

    /** "It cannot go if it asks of a phase more than its power": not if it asks for as much. */
    private static void goesUpToThePower() {
        for (int phase = 0; phase <= 2; phase++) {
            GelBook x = book(1, GelBook.HIGHEST, 60, 60);
            x.level(0, phase, 77);
            x.power(phase, 769);
            Check.state("9: 770 of 769", () -> x.go(0));
            Check.same("9: it is not active", 0, x.playing(0, 0));
            x.power(phase, 770);
            Check.same("9: 770 of 770", 1, x.go(0));
            x.power(phase, 769);
            Check.state("9: nor again, though it goes", () -> x.go(0));
            x.release(0);
            Check.state("9: nor while it falls", () -> x.go(0));
        }
        GelBook y = new GelBook();
        y.lamp(0, 0, 0, 101, 0);
        y.cue(GelBook.HIGHEST, 0, 0);
        y.level(0, 0, 1);
        y.power(0, 1);
        Check.state("9: 1.01 is rounded up to 2", () -> y.go(0));
        y.power(0, 2);
        Check.same("9: 2 are enough", 1, y.go(0));
    }

    /** "also of one in which it has no lamp itself". */
    private static void powerOfOtherPhases() {
        for (int phase = 0; phase <= 2; phase++) {
            int other = (phase + 1) % 3;
            GelBook x = book(3, GelBook.LATEST, 0, 60);
            x.level(0, phase, 50);
            x.level(1, other, 50);
            x.go(0);
            x.power(phase, 499);
            Check.state("9: of a phase of others", () -> x.go(1));
            Check.state("9: also without a lamp", () -> x.go(2));
            x.power(phase, 500);
            Check.same("9: as much as the others ask for", 2, x.go(1));
            x.power(phase, 0);
            x.release(0);
            Check.same("9: those that are released do not ask", 3, x.go(2));
        }
    }

    /** The same: of three phases each one is looked at. */
    private static void powerOfTheLastPhase() {
        for (int less = 0; less <= 2; less++) {
            GelBook x = book(1, GelBook.HIGHEST, 0, 0);
            for (int phase = 0; phase <= 2; phase++) {
                x.level(0, phase, 100);
                x.power(phase, phase == less ? 999 : 1000);
            }
            Check.state("9: one watt less in phase " + less, () -> x.go(0));
            x.power(less, 1000);
            Check.same("9: enough", 1, x.go(0));
        }
    }

    /** Promise 10: "Returns whether it is active still." */
    private static void releaseAnswer() {
        GelBook x = book(0, 0, 0, 0);
        for (int down : new int[] {0, 1, 60}) {
            int cue = x.cue(GelBook.LATEST, 60, down);
            x.go(cue);
            Check.same("10: down " + down, down > 0, x.release(cue));
            Check.same("10: as it plays", down > 0 ? 1 : 0, x.playing(cue, 0));
        }
    }

    /** Promise 10: "Throws IllegalStateException if it is not active, or was released". */
    private static void releaseOfTheInactive() {
        GelBook x = book(2, GelBook.HIGHEST, 0, 3);
        Check.state("10: it never went", () -> x.release(0));
        x.go(1);
        Check.state("10: another one went", () -> x.release(0));
        x.go(0);
        x.release(0);
        Check.state("10: was released now", () -> x.release(0));
        x.pass(2);
        Check.state("10: was released before", () -> x.release(0));
        Check.bits("10: it falls on as it did", 1f - 2f / 3f, x.playing(0, 3));
        x.pass(1);
        Check.state("10: is over", () -> x.release(0));
        x.go(0);
        Check.same("10: it went again", true, x.release(0));
        Check.same("10: the other one is not released", 0, x.playing(1, 1));
    }

    /** Promise 10: "Throws IndexOutOfBoundsException as told". */
    private static void releaseNumbers() {
        GelBook x = book(12, GelBook.HIGHEST, 0, 9);
        for (int i = 0; i < 12; i++) {
            x.go(i);
        }
        for (int wrong : new int[] {12, 13, 16}) {
            Check.index("10: no cue " + wrong, () -> x.release(wrong));
        }
        for (int wrong : FAR) {
            Check.index("10: no cue " + wrong, () -> x.release(wrong));
        }
        Check.same("10: the last one", true, x.release(11));
        Check.same("10: the first one", true, x.release(0));
        for (int i = 0; i < 12; i++) {
            Check.same("10: released, " + i, i == 0 || i == 11 ? 1 : 0, x.playing(i, 1));
        }
        GelBook y = book(1, GelBook.HIGHEST, 0, 0);
        Check.index("10: no cue 1 yet", () -> y.release(1));
    }

    /** Promise 11: "`ticks`: 1 to 20. Returns the tick then." */
    private static void passRange() {
        GelBook x = new GelBook();
        int tick = 0;
        for (int ticks = 1; ticks <= 20; ticks++) {
            tick += ticks;
            Check.same("11: ticks " + ticks, tick, x.pass(ticks));
        }
        for (int wrong : new int[] {0, 21, 22, 40, 60}) {
            Check.argument("11: ticks " + wrong, () -> x.pass(wrong));
        }
        for (int wrong : FAR) {
            Check.argument("11: ticks " + wrong, () -> x.pass(wrong));
        }
        Check.same("11: none of these passed", tick + 1, x.pass(1));
    }

    /** "When ticks pass, one behind the other": 20 at once are as 20 times 1. */
    private static void passOneBehindTheOther() {
        GelBook[] both = new GelBook[2];
        for (int i = 0; i < 2; i++) {
            GelBook x = book(6, GelBook.LATEST, 3, 2);
            for (int cue = 0; cue < 6; cue++) {
                x.level(cue, cue % 3, 30 + 7 * cue);
                x.follow(cue, (cue + 1) % 6, 1 + cue % 4);
            }
            x.go(0);
            x.go(4);
            both[i] = x;
        }
        for (int round = 0; round < 4; round++) {
            for (GelBook x : both) {
                if (x.playing(4, 0) == 1 && x.playing(4, 1) == 0) {
                    x.release(4);
                }
                x.power(1, round % 2 == 0 ? 1000 : 500);
                x.go(3);
            }
            Check.same("11: the tick", 20 * round + 20, both[0].pass(20));
            for (int i = 0; i < 20; i++) {
                both[1].pass(1);
            }
            for (int cue = 0; cue < 6; cue++) {
                for (int what = 0; what < 4; what++) {
                    Check.same("11: one behind the other, cue " + cue + ", " + what, both[1].playing(cue, what),
                            both[0].playing(cue, what));
                }
            }
            for (int lamp = 0; lamp < 3; lamp++) {
                Check.same("11: the levels too", both[1].levelOf(lamp), both[0].levelOf(lamp));
                Check.same("13: and anew", both[1].levelOf(lamp), both[0].levelAnew(lamp));
            }
            Check.same("11: and the barred", both[1].barred(), both[0].barred());
        }
        Check.same("11: some are barred", true, both[0].barred() > 0);
    }

    /** "the tick is 1 more; [..] then cues that are to follow at this tick go": they went at that tick. */
    private static void goesAtItsTick() {
        GelBook x = book(2, GelBook.HIGHEST, 10, 0);
        x.follow(0, 1, 1);
        x.go(0);
        Check.same("11: not at the same tick", 0, x.playing(1, 0));
        x.pass(1);
        Check.same("11: at the next one", 1, x.playing(1, 2));
        Check.bits("11: from 0.0", 0f, x.playing(1, 3));
        x.pass(1);
        Check.bits("11: and on", 1f / 10f, x.playing(1, 3));
    }

    /** Twenty followers one behind the other in one pass. */
    private static void followersInPass() {
        GelBook x = book(12, GelBook.HIGHEST, 0, 0);
        for (int i = 0; i < 12; i++) {
            x.follow(i, (i + 1) % 12, 1);
        }
        x.go(0);
        x.pass(20);
        for (int i = 0; i < 12; i++) {
            Check.same("11: cue " + i, i <= 8 ? i + 12 : i, x.playing(i, 2));
        }
    }

    /** "so many ticks, 1 to 60, behind its going": the 60 pass in three times 20, and the going is of a later tick. */
    private static void sixtyTicksBehind() {
        GelBook x = book(2, GelBook.HIGHEST, 0, 0);
        x.pass(7);
        x.follow(0, 1, 60);
        x.go(0);
        x.pass(20);
        x.pass(20);
        x.pass(19);
        Check.same("11: 59 behind", 0, x.playing(1, 0));
        x.pass(20);
        Check.same("11: 60 behind", 67, x.playing(1, 2));
    }

    /** "noted as a cue goes, each time, so that one may be noted several times". */
    private static void notedSeveralTimes() {
        GelBook x = book(2, GelBook.HIGHEST, 0, 0);
        x.level(1, 0, 100);
        x.follow(0, 1, 3);
        x.go(0);
        x.go(0);
        x.pass(1);
        x.go(0);
        x.pass(2);
        Check.same("11: the first of them", 3, x.playing(1, 2));
        x.power(0, 999);
        x.pass(1);
        Check.same("11: the third is barred", 1, x.barred());
        Check.same("11: as it was", 3, x.playing(1, 2));
        x.release(1);
        x.go(0);
        x.go(0);
        x.pass(3);
        Check.same("11: two at one tick are both barred", 3, x.barred());
    }

    /** "in the order in which that was noted": not by cue, nor by the ticks that it takes. */
    private static void inTheOrderNoted() {
        for (int first = 0; first <= 1; first++) {
            for (int between = 0; between <= 2; between++) {
                GelBook x = book(4, GelBook.LATEST, 0, 0);
                x.level(2, 0, 20);
                x.level(3, 0, 30);
                x.follow(first, 2 + first, 5);
                x.follow(1 - first, 3 - first, 5 - between);
                x.go(first);
                passAll(x, between);
                x.go(1 - first);
                passAll(x, 5 - between);
                String what = "11: cue " + first + " first, " + between + " between: ";
                Check.same(what + "the one", 5, x.playing(2, 2));
                Check.same(what + "and the other at one tick", 5, x.playing(3, 2));
                Check.bits(what + "the one noted last stands", first == 0 ? 30f : 20f, x.levelOf(0));
            }
        }
    }

    /** "each that cannot is counted as barred": it does not go later, and nothing follows it. */
    private static void barredAndNotTriedAgain() {
        GelBook x = book(3, GelBook.HIGHEST, 0, 0);
        x.level(1, 0, 100);
        x.follow(0, 1, 1);
        x.follow(1, 2, 1);
        x.power(0, 999);
        x.go(0);
        x.pass(1);
        Check.same("19: one is barred", 1, x.barred());
        Check.same("11: it is not active", 0, x.playing(1, 0));
        x.power(0, 1000);
        x.pass(20);
        Check.same("11: nor later", 0, x.playing(1, 0));
        Check.same("11: nor its follower", 0, x.playing(2, 0));
        Check.same("19: one is barred still", 1, x.barred());
        x.follow(1, NONE, 1);
        x.follow(0, 1, 2);
        x.go(1);
        x.go(0);
        x.power(0, 999);
        x.pass(2);
        Check.same("19: a cue that goes is barred too", 2, x.barred());
        Check.same("11: its former going stays", 21, x.playing(1, 2));
    }

    /** "if they can": by how things are at that tick, not when it was noted. */
    private static void asThingsAreWhenDue() {
        GelBook x = book(2, GelBook.HIGHEST, 0, 0);
        x.level(1, 0, 100);
        x.follow(0, 1, 2);
        x.power(0, 999);
        x.go(0);
        x.pass(1);
        x.power(0, 1000);
        x.pass(1);
        Check.same("11: it can now", 2, x.playing(1, 2));
        x.go(0);
        x.pass(1);
        x.die(0);
        x.power(0, 0);
        x.pass(1);
        Check.same("11: a dead lamp asks for nothing", 4, x.playing(1, 2));
        x.go(0);
        x.pass(1);
        x.die(0);
        x.pass(1);
        Check.same("11: mended it asks too much", 1, x.barred());
        Check.same("11: so it went before", 4, x.playing(1, 2));
    }

    /** "it goes also if the first one was released meanwhile", or is over. */
    private static void releasedMeanwhile() {
        for (int down : new int[] {0, 1, 5, 60}) {
            GelBook x = book(0, 0, 0, 0);
            x.cue(GelBook.HIGHEST, 0, down);
            x.cue(GelBook.HIGHEST, 0, 0);
            x.follow(0, 1, 5);
            x.go(0);
            x.release(0);
            x.pass(4);
            Check.same("11: not sooner, down " + down, 0, x.playing(1, 0));
            x.pass(1);
            Check.same("11: it goes, down " + down, 5, x.playing(1, 2));
            Check.same("11: the first one, down " + down, down > 5 ? 1 : 0, x.playing(0, 0));
        }
    }

    /** "goings are over that are; then cues [..] go": one that is over and follows at the same tick is active then. */
    private static void overBeforeOthersGo() {
        GelBook x = book(2, GelBook.LATEST, 4, 3);
        x.level(1, 0, 80);
        x.follow(0, 1, 3);
        x.go(1);
        x.go(0);
        x.release(1);
        x.pass(3);
        Check.same("11: it is active", 1, x.playing(1, 0));
        Check.same("11: not released", 0, x.playing(1, 1));
        Check.same("11: it went at that tick", 3, x.playing(1, 2));
        x.pass(4);
        Check.bits("11: and rises whole", 80f, x.levelOf(0));
    }

    /** A cue may be followed by itself: at each tick, and if it was released. */
    private static void followsItself() {
        GelBook x = book(1, GelBook.HIGHEST, 60, 0);
        x.follow(0, 0, 1);
        x.go(0);
        for (int tick = 1; tick <= 5; tick++) {
            x.pass(1);
            Check.same("11: again at " + tick, tick, x.playing(0, 2));
            Check.bits("11: never on its way up", 0f, x.playing(0, 3));
        }
        Check.same("10: over", false, x.release(0));
        x.pass(1);
        Check.same("11: again, though it was over", 6, x.playing(0, 2));
        x.follow(0, NONE, 1);
        x.pass(1);
        Check.same("11: the one that was noted", 7, x.playing(0, 2));
        x.pass(5);
        Check.same("11: then no more", 7, x.playing(0, 2));
    }

    /** Promise 18: "`what`: 0 [..] 3", and "(1 or 0 each)". */
    private static void playingRange() {
        GelBook x = book(1, GelBook.HIGHEST, 4, 8);
        x.pass(6);
        x.go(0);
        x.pass(1);
        int[] due = {1, 0, 6, Float.floatToIntBits(0.25f)};
        for (int what = 0; what <= 3; what++) {
            Check.same("18: what " + what, due[what], x.playing(0, what));
        }
        x.release(0);
        due[1] = 1;
        for (int what = 0; what <= 3; what++) {
            Check.same("18: released, what " + what, due[what], x.playing(0, what));
        }
        for (int wrong : new int[] {4, 5, 100}) {
            Check.argument("18: what " + wrong, () -> x.playing(0, wrong));
            Check.index("18: no cue, and what " + wrong, () -> x.playing(1, wrong));
            Check.index("18: cue -1, and what " + wrong, () -> x.playing(-1, wrong));
        }
        for (int wrong : FAR) {
            Check.argument("18: what " + wrong, () -> x.playing(0, wrong));
            Check.index("18: no cue, and what " + wrong, () -> x.playing(1, wrong));
        }
    }

    /** Promise 18: "NONE for 2 and 3, if it is not active"; 0 for 0 and 1. */
    private static void playingOfTheInactive() {
        int[] due = {0, 0, NONE, NONE};
        GelBook x = book(2, GelBook.LATEST, 0, 1);
        x.go(1);
        for (int what = 0; what <= 3; what++) {
            Check.same("18: it never went, " + what, due[what], x.playing(0, what));
        }
        x.go(0);
        x.release(0);
        x.pass(1);
        for (int what = 0; what <= 3; what++) {
            Check.same("18: it is over, " + what, due[what], x.playing(0, what));
        }
        Check.argument("18: what 4 of one that is not active", () -> x.playing(0, 4));
        Check.argument("18: what -1 of one that is not active", () -> x.playing(0, -1));
    }

    /** Promise 18: "Throws IndexOutOfBoundsException as told". */
    private static void playingNumbers() {
        GelBook x = book(12, GelBook.HIGHEST, 0, 0);
        x.go(11);
        Check.same("18: the last one", 1, x.playing(11, 0));
        Check.same("18: the first one", 0, x.playing(0, 0));
        for (int what = 0; what <= 3; what++) {
            int one = what;
            for (int wrong : new int[] {12, 13, 16}) {
                Check.index("18: no cue " + wrong, () -> x.playing(wrong, one));
            }
            for (int wrong : FAR) {
                Check.index("18: no cue " + wrong, () -> x.playing(wrong, one));
            }
        }
        GelBook y = book(1, GelBook.HIGHEST, 0, 0);
        Check.index("18: no cue 1 yet", () -> y.playing(1, 0));
    }
}
