import java.util.function.Function;

/** "An object is used for at most 512 calls after it has been made": the 512th is answered as the first ones are. */
public final class LastCallTest {
    private static final int CALLS = 512;

    public static void main(String[] args) {
        eachCallAsTheLast();
        refusedCallsAsTheLast();
        passesOnly();
        goesOnly();
        mostFollowersAtOneTick();
        mostFollowersBarred();
        longestChains();
        mostGoings();
        mostReleases();
        refusedCallsOnly();
        Check.end();
    }

    /** 511 calls: goings, releases and ticks all along; the tick is 101 then, and both cues went at 100. */
    private static GelBook used() {
        GelBook x = new GelBook();
        x.lamp(0, 0, 11, 800, 0);
        x.lamp(1, 0, 11, 600, 1);
        x.cue(GelBook.HIGHEST, 0, 4);
        x.cue(GelBook.LATEST, 4, 2);
        x.level(0, 0, 50);
        x.level(1, 0, 100);
        int calls = 6;
        while (calls < CALLS - 1) {
            int round = (calls - 6) % 5;
            if (round == 0 || round == 3) {
                x.go(0);
            } else if (round == 1) {
                x.go(1);
            } else if (round == 2) {
                x.release(0);
            } else {
                x.pass(1);
            }
            calls++;
        }
        return x;
    }

    private static void last(String what, Object due, Function<GelBook, Object> call) {
        GelBook x = used();
        Check.same("the 512th call, " + what, due, Check.answer(() -> call.apply(x)));
    }

    private static void eachCallAsTheLast() {
        String level = String.valueOf(Float.floatToIntBits(50f + 0.25f * (100f - 50f)));
        last("lamp", "2", x -> x.lamp(3, 9, 55, 2000, 2));
        last("die", "true", x -> x.die(1));
        last("house", "2", x -> x.house(15));
        last("power", "5000", x -> x.power(2, 20000));
        last("cue", "2", x -> x.cue(GelBook.LATEST, 60, 60));
        last("level", "100", x -> x.level(1, 0, 0));
        last("follow", "-1", x -> x.follow(1, 0, 60));
        last("go", "2", x -> x.go(1));
        last("release", "true", x -> x.release(0));
        last("pass", "121", x -> x.pass(20));
        last("levelOf", level, x -> x.levelOf(0));
        last("levelAnew", level, x -> x.levelAnew(0));
        last("loadOf", String.valueOf(Float.floatToIntBits(500f)), x -> x.loadOf(0));
        last("watts", "500", x -> x.watts(0));
        last("asks", "800", x -> x.asks(1, 0));
        last("shines", "0", x -> x.shines(1, 0));
        last("playing", "100", x -> x.playing(0, 2));
        last("barred", "0", x -> x.barred());
    }

    private static void refusedCallsAsTheLast() {
        last("lamp", "throws.IllegalArgumentException", x -> x.lamp(4, 0, 0, 100, 0));
        last("die", "throws.IndexOutOfBoundsException", x -> x.die(2));
        last("cue", "throws.IllegalArgumentException", x -> x.cue(0, 61, 0));
        last("go", "throws.IndexOutOfBoundsException", x -> x.go(2));
        last("pass", "throws.IllegalArgumentException", x -> x.pass(21));
        last("levelAnew", "throws.IndexOutOfBoundsException", x -> x.levelAnew(2));
        last("playing", "throws.IllegalArgumentException", x -> x.playing(0, 4));
    }

    /** 512 times 20 ticks. */
    private static void passesOnly() {
        GelBook x = new GelBook();
        for (int i = 1; i <= CALLS; i++) {
            Check.same("11: call " + i, 20 * i, x.pass(20));
        }
    }

    /** 511 times the one cue. */
    private static void goesOnly() {
        GelBook x = new GelBook();
        x.cue(GelBook.LATEST, 60, 60);
        for (int i = 2; i <= CALLS; i++) {
            Check.same("9: call " + i, 1, x.go(0));
        }
    }

    /** As many as can be noted for one tick: all of them go, the one noted last on top. */
    private static void mostFollowersAtOneTick() {
        GelBook x = new GelBook();
        x.lamp(0, 0, 0, 100, 0);
        for (int i = 0; i < 4; i++) {
            x.cue(GelBook.LATEST, 0, 0);
        }
        x.level(2, 0, 20);
        x.level(3, 0, 30);
        x.follow(0, 2, 20);
        x.follow(1, 3, 20);
        for (int i = 10; i <= CALLS - 3; i++) {
            x.go(i % 2);
        }
        Check.same("11: the 510th call", 20, x.pass(20));
        Check.same("11: the 511th, one that was noted first went", 20, x.playing(2, 2));
        Check.bits("11: the 512th, the one noted last stands", 30f, x.levelOf(0));
    }

    /** As many as can be barred. */
    private static void mostFollowersBarred() {
        GelBook x = new GelBook();
        x.lamp(0, 0, 0, 100, 0);
        x.cue(GelBook.HIGHEST, 0, 0);
        x.cue(GelBook.HIGHEST, 0, 0);
        x.level(1, 0, 1);
        x.power(0, 0);
        x.follow(0, 1, 1);
        for (int i = 7; i <= CALLS - 2; i++) {
            x.go(0);
        }
        Check.same("11: the 511th call", 20, x.pass(20));
        Check.same("19: the 512th", 504, x.barred());
    }

    /** Twelve cues that follow themselves for more than 9000 ticks: all their goings are on the list that is told anew. */
    private static void longestChains() {
        for (int lamp = 0; lamp <= 1; lamp++) {
            GelBook x = new GelBook();
            x.lamp(0, 0, 0, 100, 0);
            x.lamp(0, 0, 0, 100, 0);
            for (int i = 0; i < 12; i++) {
                x.cue(i < 10 ? GelBook.HIGHEST : GelBook.LATEST, i < 10 ? 0 : 2, 0);
                x.level(i, lamp, 10 + i);
                x.follow(i, i, i < 10 ? 1 : 2);
            }
            for (int i = 0; i < 12; i++) {
                x.go(i);
            }
            int tick = 0;
            for (int i = 51; i <= CALLS - 2; i++) {
                tick = x.pass(i == 51 ? 19 : 20);
            }
            Check.same("11: the ticks", 9199, tick);
            float level = 19f + 0.5f * (20f - 19f);
            level = level + 0.5f * (21f - level);
            Check.bits("12: the 511th call", level, x.levelOf(lamp));
            Check.bits("13: the 512th call", level, x.levelAnew(lamp));
        }
    }

    /** A cue that goes some 250 times at each of some 5000 ticks: the list is long, but what went last is on it. */
    private static void mostGoings() {
        GelBook x = new GelBook();
        x.lamp(0, 0, 0, 100, 0);
        x.cue(GelBook.HIGHEST, 0, 0);
        x.cue(GelBook.LATEST, 0, 0);
        x.level(0, 0, 10);
        x.level(1, 0, 50);
        x.follow(0, 0, 1);
        for (int i = 7; i <= 258; i++) {
            x.go(0);
        }
        for (int i = 259; i <= CALLS - 3; i++) {
            x.pass(20);
        }
        Check.same("9: the 510th call", 2, x.go(1));
        Check.bits("12: the 511th", 50f, x.levelOf(0));
        Check.bits("13: the 512th", 50f, x.levelAnew(0));
    }

    /** Goings and releases by turns, the last of which falls still. */
    private static void mostReleases() {
        GelBook x = new GelBook();
        x.lamp(0, 0, 0, 100, 0);
        x.cue(GelBook.HIGHEST, 0, 2);
        x.level(0, 0, 100);
        for (int i = 4; i <= CALLS - 3; i += 2) {
            Check.same("9: call " + i, 1, x.go(0));
            Check.same("10: call " + (i + 1), true, x.release(0));
        }
        x.pass(1);
        Check.bits("13: the 511th call", 50f, x.levelAnew(0));
        Check.bits("12: the 512th call", 50f, x.levelOf(0));
    }

    /** Calls that are refused are calls too, and leave all room to the last one. */
    private static void refusedCallsOnly() {
        GelBook x = new GelBook();
        x.cue(GelBook.HIGHEST, 0, 0);
        for (int i = 2; i <= CALLS - 4; i++) {
            Check.state("10: call " + i, () -> x.release(0));
        }
        Check.same("9: the 509th call", 1, x.go(0));
        Check.same("11: the 510th", 3, x.pass(3));
        Check.same("10: the 511th", false, x.release(0));
        Check.same("18: the 512th", -1, x.playing(0, 2));
    }
}
