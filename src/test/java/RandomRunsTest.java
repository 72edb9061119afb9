import java.util.Random;

/** Runs of 512 calls, by fixed seeds, compared call by call with PlainBook. */
public final class RandomRunsTest {
    private static final int RUNS = 400;
    private static final int CALLS = 512;

    private final Random random;
    private final GelBook book = new GelBook();
    private final PlainBook plain = new PlainBook();
    private final String run;
    /** How often goings are asked for in this run, to have both crowded runs and quiet ones. */
    private final int crowd;

    private RandomRunsTest(int seed) {
        random = new Random(seed);
        run = "run " + seed;
        crowd = 1 + random.nextInt(20);
    }

    public static void main(String[] args) {
        for (int seed = 0; seed < RUNS; seed++) {
            RandomRunsTest test = new RandomRunsTest(seed);
            int setUp = 10 + test.random.nextInt(60);
            for (int i = 0; i < CALLS; i++) {
                test.call(i < setUp);
            }
        }
        Check.end();
    }

    /** From 0 to below the bound, seldom something else. */
    private int some(int bound) {
        int chance = random.nextInt(150);
        if (chance == 0) {
            return -1;
        }
        if (chance == 1) {
            return bound;
        }
        if (chance == 2) {
            return random.nextInt();
        }
        return random.nextInt(bound);
    }

    private int time() {
        return random.nextInt(4) == 0 ? 0 : random.nextInt(3) == 0 ? some(61) : some(7);
    }

    private int gel() {
        return random.nextInt(100) == 0 ? some(60) : 10 * random.nextInt(2) + random.nextInt(2);
    }

    private void call(boolean settingUp) {
        if (settingUp) {
            setUp();
            return;
        }
        int kind = random.nextInt(30 + crowd);
        if (kind < 3) {
            setUp();
        } else if (kind < 7) {
            change();
        } else if (kind < 12) {
            pass();
        } else if (kind < 26) {
            ask();
        } else {
            play();
        }
    }

    private void setUp() {
        int a = some(4), b = some(10), c = gel(), d = 100 + some(1901), e = some(3);
        int cue = some(12), lamp = some(16), level = some(101), other = some(12), ticks = 1 + time();
        int sort = some(2), up = time(), down = time();
        switch (random.nextInt(5)) {
            case 0:
                both("lamp " + a + " " + b + " " + c + " " + d + " " + e,
                        Check.answer(() -> plain.lamp(a, b, c, d, e)), Check.answer(() -> book.lamp(a, b, c, d, e)));
                break;
            case 1:
                both("cue " + sort + " " + up + " " + down,
                        Check.answer(() -> plain.cue(sort, up, down)), Check.answer(() -> book.cue(sort, up, down)));
                break;
            case 2:
                both("follow " + cue + " " + other + " " + ticks, Check.answer(() -> plain.follow(cue, other, ticks)),
                        Check.answer(() -> book.follow(cue, other, ticks)));
                break;
            default:
                both("level " + cue + " " + lamp + " " + level, Check.answer(() -> plain.level(cue, lamp, level)),
                        Check.answer(() -> book.level(cue, lamp, level)));
        }
    }

    private void change() {
        int lamp = some(16), bars = some(16), phase = some(3);
        int watts = random.nextInt(3) == 0 ? some(20001) : some(9000);
        switch (random.nextInt(4)) {
            case 0:
                both("house " + bars, Check.answer(() -> plain.house(bars)), Check.answer(() -> book.house(bars)));
                break;
            case 1:
                both("power " + phase + " " + watts, Check.answer(() -> plain.power(phase, watts)),
                        Check.answer(() -> book.power(phase, watts)));
                break;
            default:
                both("die " + lamp, Check.answer(() -> plain.die(lamp)), Check.answer(() -> book.die(lamp)));
        }
    }

    private void play() {
        int cue = some(12);
        if (random.nextInt(3) == 0) {
            both("release " + cue, Check.answer(() -> plain.release(cue)), Check.answer(() -> book.release(cue)));
        } else {
            both("go " + cue, Check.answer(() -> plain.go(cue)), Check.answer(() -> book.go(cue)));
        }
    }

    private void pass() {
        int ticks = 1 + some(random.nextInt(9) == 0 ? 20 : 3);
        both("pass " + ticks, Check.answer(() -> plain.pass(ticks)), Check.answer(() -> book.pass(ticks)));
    }

    private void ask() {
        int lamp = some(16), cue = some(12), phase = some(3), what = some(4);
        both("levelOf " + lamp, Check.answer(() -> plain.levelOf(lamp)), Check.answer(() -> book.levelOf(lamp)));
        both("levelAnew " + lamp, Check.answer(() -> plain.levelAnew(lamp)), Check.answer(() -> book.levelAnew(lamp)));
        both("loadOf " + phase, Check.answer(() -> plain.loadOf(phase)), Check.answer(() -> book.loadOf(phase)));
        both("watts " + phase, Check.answer(() -> plain.watts(phase)), Check.answer(() -> book.watts(phase)));
        both("asks " + cue + " " + phase, Check.answer(() -> plain.asks(cue, phase)),
                Check.answer(() -> book.asks(cue, phase)));
        both("shines " + cue + " " + lamp, Check.answer(() -> plain.shines(cue, lamp)),
                Check.answer(() -> book.shines(cue, lamp)));
        both("playing " + cue + " " + what, Check.answer(() -> plain.playing(cue, what)),
                Check.answer(() -> book.playing(cue, what)));
        both("barred", Check.answer(plain::barred), Check.answer(book::barred));
    }

    private void both(String call, String due, String got) {
        Check.same(run + ": " + call, due, got);
    }
}
