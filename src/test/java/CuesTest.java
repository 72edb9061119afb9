/** Promises 6 to 11: cue, level, follow, go, release, pass. */
public final class CuesTest {
    private static final int[] EXTREMES = {Integer.MIN_VALUE, Integer.MAX_VALUE, -2};

    public static void main(String[] args) {
        cue();
        level();
        follow();
        followOfBefore();
        goCounts();
        goAsksTooMuch();
        goAgain();
        release();
        pass();
        followersGo();
        followersInOrder();
        followersBarred();
        overBeforeFollowers();
        Check.end();
    }

    /** A lamp of 1000 watts in each phase, and as many HIGHEST cues without times. */
    private static GelBook book(int cues) {
        GelBook x = new GelBook();
        for (int phase = 0; phase < 3; phase++) {
            x.lamp(phase, 0, 11 * phase, 1000, phase);
        }
        for (int i = 0; i < cues; i++) {
            x.cue(GelBook.HIGHEST, 0, 0);
        }
        return x;
    }

    private static void cue() {
        GelBook x = book(0);
        Check.same("6: the first", 0, x.cue(GelBook.HIGHEST, 0, 0));
        Check.same("6: the second", 1, x.cue(GelBook.LATEST, 60, 60));
        for (int wrong : new int[] {Integer.MIN_VALUE, -1, 61, Integer.MAX_VALUE}) {
            Check.argument("6: up " + wrong, () -> x.cue(0, wrong, 0));
            Check.argument("6: down " + wrong, () -> x.cue(0, 0, wrong));
            Check.argument("6: sort " + wrong, () -> x.cue(wrong, 0, 0));
        }
        Check.argument("6: sort 2", () -> x.cue(2, 0, 0));
        for (int lamp = 0; lamp < 3; lamp++) {
            Check.same("6: without levels", GelBook.NONE, x.shines(0, lamp));
            Check.same("6: without asking", 0, x.asks(1, lamp));
        }
        Check.same("6: without a follower", GelBook.NONE, x.follow(0, 1, 1));
        for (int i = 2; i < 12; i++) {
            Check.same("6: cue " + i, i, x.cue(i % 2, i, 60 - i));
        }
        Check.state("6: a 13th", () -> x.cue(0, 0, 0));
        Check.argument("6: a wrong 13th", () -> x.cue(0, 61, 0));
        Check.index("6: which is not there", () -> x.playing(12, 0));
        Check.same("6: the 12th is", 0, x.playing(11, 0));
    }

    private static void level() {
        GelBook x = book(2);
        Check.same("7: none before", 0, x.level(0, 0, 100));
        Check.same("7: 100 before", 100, x.level(0, 0, 1));
        Check.same("7: 1 before", 1, x.level(0, 0, 0));
        Check.same("7: none any more", 0, x.level(0, 0, 30));
        Check.same("7: of another lamp", 0, x.level(0, 1, 40));
        Check.same("7: of another cue", 0, x.level(1, 0, 50));
        Check.argument("7: level 101", () -> x.level(0, 0, 101));
        Check.argument("7: level -1", () -> x.level(0, 0, -1));
        Check.index("7: no lamp 3", () -> x.level(0, 3, 5));
        Check.index("7: no cue 2", () -> x.level(2, 0, 5));
        Check.index("7: no lamp -1", () -> x.level(0, -1, 5));
        Check.index("7: no cue -1", () -> x.level(-1, 0, 5));
        for (int wrong : EXTREMES) {
            Check.argument("7: level " + wrong, () -> x.level(0, 0, wrong));
            Check.index("7: lamp first, " + wrong, () -> x.level(0, wrong, wrong));
            Check.index("7: cue first, " + wrong, () -> x.level(wrong, 0, wrong));
        }
        Check.same("7: nothing changed", 30, x.level(0, 0, 30));
        x.die(0);
        Check.same("7: told also of a dead lamp", 30, x.level(0, 0, 60));
        x.die(0);
        x.go(0);
        Check.bits("7: what was told", 60f, x.levelOf(0));
        x.level(0, 0, 70);
        Check.bits("7: also while it goes", 70f, x.levelOf(0));
        x.level(0, 0, 0);
        Check.bits("7: and none any more", 0f, x.levelOf(0));
    }

    private static void follow() {
        GelBook x = book(3);
        Check.same("8: none before", GelBook.NONE, x.follow(0, 1, 1));
        Check.same("8: 1 before", 1, x.follow(0, 0, 60));
        Check.same("8: itself before", 0, x.follow(0, GelBook.NONE, 60));
        Check.same("8: none again", GelBook.NONE, x.follow(0, 2, 5));
        Check.same("8: of another cue", GelBook.NONE, x.follow(1, 2, 5));
        Check.argument("8: ticks 0", () -> x.follow(0, 1, 0));
        Check.argument("8: ticks 61", () -> x.follow(0, 1, 61));
        Check.argument("8: ticks 0 for none", () -> x.follow(0, GelBook.NONE, 0));
        Check.index("8: no other 3", () -> x.follow(0, 3, 1));
        Check.index("8: no cue 3", () -> x.follow(3, 0, 1));
        Check.index("8: no cue -1", () -> x.follow(GelBook.NONE, 0, 1));
        for (int wrong : EXTREMES) {
            Check.index("8: no other " + wrong, () -> x.follow(0, wrong, 1));
            Check.index("8: no cue " + wrong, () -> x.follow(wrong, 0, 1));
            Check.index("8: the cue comes first, " + wrong, () -> x.follow(wrong, 0, wrong));
            Check.index("8: the other comes first, " + wrong, () -> x.follow(0, wrong, wrong));
            Check.argument("8: ticks " + wrong, () -> x.follow(0, 1, wrong));
        }
        Check.same("8: nothing changed", 2, x.follow(0, 1, 1));
    }

    private static void followOfBefore() {
        GelBook x = book(3);
        x.follow(0, 1, 2);
        x.go(0);
        x.follow(0, 2, 4);
        x.go(0);
        x.follow(0, GelBook.NONE, 1);
        x.pass(2);
        Check.same("8: goings of before stay as they are", 2, x.playing(1, 2));
        Check.same("8: the later one is not yet due", 0, x.playing(2, 0));
        x.pass(2);
        Check.same("8: as it was told when it went", 4, x.playing(2, 2));
        x.go(0);
        x.pass(20);
        Check.same("8: none any more", 4, x.playing(2, 2));
    }

    private static void goCounts() {
        GelBook x = book(12);
        for (int i = 0; i < 12; i++) {
            Check.same("9: active then", i + 1, x.go(11 - i));
        }
        Check.same("9: in place of its former going", 12, x.go(5));
        Check.index("9: no cue 12", () -> x.go(12));
        Check.index("9: no cue -1", () -> x.go(-1));
        for (int wrong : EXTREMES) {
            Check.index("9: no cue " + wrong, () -> x.go(wrong));
        }
        GelBook y = book(1);
        y.cue(0, 0, 5);
        y.go(1);
        y.release(1);
        Check.same("9: released ones too", 2, y.go(0));
        y.pass(5);
        Check.same("9: but not those that are over", 1, y.go(0));
    }

    private static void goAsksTooMuch() {
        GelBook x = book(3);
        x.level(0, 0, 50);
        x.level(1, 1, 100);
        x.power(0, 500);
        Check.same("9: as much as the power", 1, x.go(0));
        x.power(0, 499);
        Check.state("9: of a phase in which it has no lamp", () -> x.go(1));
        Check.state("9: also without levels", () -> x.go(2));
        Check.same("9: nothing changed", 0, x.playing(1, 0));
        Check.same("9: not counted as barred", 0, x.barred());
        x.release(0);
        Check.same("9: a released one is not asked for", 1, x.go(1));
        x.power(2, 0);
        Check.same("9: 0 watts for nothing", 2, x.go(2));
        x.level(0, 2, 1);
        Check.state("9: the last phase is looked at too", () -> x.go(0));
        GelBook y = book(2);
        y.cue(0, 0, 9);
        y.level(2, 0, 100);
        y.go(2);
        y.release(2);
        y.power(0, 0);
        Check.same("9: a falling one is not asked for", 2, y.go(0));
        Check.state("9: but itself it is", () -> y.go(2));
        Check.same("9: it goes on falling", 1, y.playing(2, 1));
    }

    private static void goAgain() {
        GelBook x = book(0);
        x.cue(GelBook.LATEST, 0, 0);
        x.cue(GelBook.LATEST, 4, 8);
        x.level(0, 0, 80);
        x.level(1, 0, 40);
        x.go(1);
        x.pass(2);
        x.go(0);
        Check.bits("9: the later one stands on top", 80f, x.levelOf(0));
        x.go(1);
        Check.same("9: it went now", 2, x.playing(1, 2));
        Check.bits("9: from the start again", 0f, x.playing(1, 3));
        x.pass(2);
        Check.bits("9: and last in the order", 60f, x.levelOf(0));
        x.release(1);
        x.pass(1);
        x.go(1);
        Check.same("9: not released any more", 0, x.playing(1, 1));
        x.pass(20);
        Check.bits("9: and it does not fall", 40f, x.levelOf(0));
    }

    private static void release() {
        GelBook x = book(1);
        x.cue(0, 4, 3);
        Check.state("10: not active", () -> x.release(0));
        x.go(0);
        x.go(1);
        x.pass(2);
        Check.same("10: over at once", false, x.release(0));
        Check.same("10: not active any more", 0, x.playing(0, 0));
        Check.state("10: nor released again", () -> x.release(0));
        Check.same("10: active still", true, x.release(1));
        Check.state("10: was released", () -> x.release(1));
        Check.bits("10: falling from its master", 0.5f, x.playing(1, 3));
        x.pass(2);
        Check.bits("10: by its down time", 0.5f * (1f - 2f / 3f), x.playing(1, 3));
        Check.same("10: active until then", 1, x.playing(1, 0));
        x.pass(1);
        Check.same("10: over then", 0, x.playing(1, 0));
        Check.state("10: not active", () -> x.release(1));
        Check.index("10: no cue 2", () -> x.release(2));
        Check.index("10: no cue -1", () -> x.release(-1));
        for (int wrong : EXTREMES) {
            Check.index("10: no cue " + wrong, () -> x.release(wrong));
        }
        x.go(1);
        Check.same("10: at the tick at which it went", true, x.release(1));
        Check.bits("10: from 0.0", 0f, x.playing(1, 3));
    }

    private static void pass() {
        GelBook x = book(1);
        Check.same("11: the least", 1, x.pass(1));
        Check.same("11: the most", 21, x.pass(20));
        for (int wrong : new int[] {Integer.MIN_VALUE, -1, 0, 21, Integer.MAX_VALUE}) {
            Check.argument("11: ticks " + wrong, () -> x.pass(wrong));
        }
        Check.same("11: nothing changed", 23, x.pass(2));
        x.go(0);
        Check.same("11: a cue goes at the tick", 23, x.playing(0, 2));
    }

    private static void followersGo() {
        GelBook x = book(3);
        x.follow(0, 1, 3);
        x.follow(1, 2, 1);
        x.go(0);
        x.release(0);
        x.pass(2);
        Check.same("11: not yet", 0, x.playing(1, 0));
        x.pass(1);
        Check.same("11: also if the first one was released", 3, x.playing(1, 2));
        x.pass(20);
        Check.same("11: the follower's follower", 4, x.playing(2, 2));
        Check.same("11: went once", 3, x.playing(1, 2));
        GelBook y = book(2);
        y.follow(0, 1, 2);
        y.go(0);
        y.pass(1);
        y.go(0);
        y.pass(1);
        Check.same("11: noted each time", 2, y.playing(1, 2));
        y.release(1);
        y.pass(1);
        Check.same("11: noted several times", 3, y.playing(1, 2));
        GelBook z = book(1);
        z.follow(0, 0, 1);
        z.go(0);
        z.pass(20);
        Check.same("11: a cue may follow itself", 20, z.playing(0, 2));
    }

    private static void followersInOrder() {
        GelBook x = book(2);
        x.cue(GelBook.LATEST, 0, 0);
        x.cue(GelBook.LATEST, 0, 0);
        x.level(2, 0, 20);
        x.level(3, 0, 30);
        x.follow(0, 3, 4);
        x.follow(1, 2, 2);
        x.go(0);
        x.pass(2);
        x.go(1);
        x.pass(2);
        Check.bits("11: in the order in which that was noted", 20f, x.levelOf(0));
        x.go(1);
        x.go(0);
        x.pass(2);
        x.follow(0, 3, 2);
        x.go(0);
        Check.bits("11: still the same", 20f, x.levelOf(0));
        x.pass(2);
        Check.bits("11: the other one later", 30f, x.levelOf(0));
    }

    private static void followersBarred() {
        GelBook x = book(4);
        x.level(1, 0, 60);
        x.level(2, 1, 60);
        x.follow(0, 1, 1);
        x.follow(3, 2, 1);
        x.follow(1, 3, 1);
        x.power(0, 599);
        x.go(0);
        x.go(3);
        x.pass(1);
        Check.same("11: the first is barred", 0, x.playing(1, 0));
        Check.same("11: the second goes", 1, x.playing(2, 2));
        Check.same("19: counted", 1, x.barred());
        x.pass(1);
        Check.same("11: it has not gone, so its own follower does not go", 0, x.playing(3, 2));
        x.power(0, 600);
        x.pass(5);
        Check.same("11: nor is it tried again", 0, x.playing(1, 0));
        GelBook y = book(4);
        y.level(1, 0, 60);
        y.level(2, 0, 40);
        y.power(0, 50);
        y.follow(0, 1, 1);
        y.follow(3, 2, 1);
        y.go(0);
        y.go(3);
        y.power(0, 400);
        y.pass(1);
        Check.same("11: barred, but the next goes", 1, y.playing(2, 0));
    }

    private static void overBeforeFollowers() {
        GelBook x = book(1);
        x.cue(GelBook.HIGHEST, 0, 2);
        x.follow(0, 1, 2);
        x.go(1);
        x.release(1);
        x.go(0);
        x.pass(2);
        Check.same("11: over, then it goes again", 2, x.playing(1, 2));
        Check.same("11: and is not released", 0, x.playing(1, 1));
    }
}
