import java.util.ArrayList;
import java.util.List;
import java.util.function.Function;

/**
 * "A call that throws an exception changes nothing": each such call is made on one of two books that are alike, and
 * then both are asked, and told, whatever shows how they stand.
 */
public final class RefusedCallsTest {
    private static final String INDEX = "throws.IndexOutOfBoundsException";
    private static final String ARGUMENT = "throws.IllegalArgumentException";
    private static final String STATE = "throws.IllegalStateException";
    private static final int LAMPS = 5;
    private static final int CUES = 6;

    public static void main(String[] args) {
        busyAsTold();
        ofLamps();
        ofPowers();
        ofCues();
        ofLevels();
        ofFollowers();
        ofGoings();
        ofReleases();
        ofPasses();
        ofAnswers();
        ofFullBooks();
        Check.end();
    }

    /** Cue 0 stands, 1 falls, 2 rises, 3 is to follow soon, 4 asks for too much, and 5 is over; a lamp is dead. */
    private static GelBook busy() {
        GelBook x = new GelBook();
        for (int i = 0; i < LAMPS; i++) {
            x.lamp(i % 4, 2 * i, 11 * (i % 2), 300 + 100 * i, i % 3);
        }
        for (int i = 0; i < CUES; i++) {
            x.cue(i % 2, 8 * i % 20 + 2 * i, 5 + i);
            x.level(i, i % LAMPS, 15 * i + 10);
        }
        x.level(4, 0, 100);
        x.level(4, 1, 100);
        x.level(5, 2, 40);
        x.go(5);
        x.release(5);
        x.pass(10);
        x.follow(0, 3, 4);
        x.follow(4, 5, 2);
        x.go(1);
        x.go(0);
        x.go(2);
        x.pass(2);
        x.release(1);
        x.pass(1);
        x.power(1, 250);
        x.house(11);
        x.die(2);
        return x;
    }

    private static void busyAsTold() {
        GelBook x = busy();
        String[] due = {"1 0", "1 1", "1 0", "0 0", "0 0", "0 0"};
        for (int cue = 0; cue < CUES; cue++) {
            Check.same("cue " + cue + " is active, and released", due[cue], x.playing(cue, 0) + " " + x.playing(cue, 1));
        }
        Check.same("a lamp is dead, and one has no bar", 4, x.house(15));
        x.pass(1);
        Check.same("cue 3 follows", 14, x.playing(3, 2));
    }

    private static void refused(String what, String due, Function<GelBook, Object> call) {
        GelBook plain = busy();
        GelBook tried = busy();
        Check.same(what, due, Check.answer(() -> call.apply(tried)));
        Check.same(what + " again", due, Check.answer(() -> call.apply(tried)));
        Check.same(what + " changes nothing", standing(plain, LAMPS, CUES, 3), standing(tried, LAMPS, CUES, 3));
    }

    private static void index(String what, Function<GelBook, Object> call) {
        refused(what, INDEX, call);
    }

    private static void argument(String what, Function<GelBook, Object> call) {
        refused(what, ARGUMENT, call);
    }

    private static void state(String what, Function<GelBook, Object> call) {
        refused(what, STATE, call);
    }

    /** All that a book answers, at several ticks; then all that it held, as calls that change it tell. */
    private static String standing(GelBook x, int lamps, int cues, int rounds) {
        List<Object> all = new ArrayList<>();
        for (int round = 0; round < rounds; round++) {
            answers(all, x, lamps, cues);
            all.add("tick " + x.pass(round == 0 ? 1 : 3));
        }
        for (int phase = 0; phase < 3; phase++) {
            all.add("power " + x.power(phase, 20000));
        }
        for (int cue = 0; cue < cues; cue++) {
            all.add("follower " + x.follow(cue, GelBook.NONE, 1));
            for (int lamp = 0; lamp < lamps && rounds > 1; lamp++) {
                all.add("level " + x.level(cue, lamp, 0));
            }
        }
        all.add("usable " + Check.answer(() -> x.house(15)));
        for (int lamp = 0; lamp < lamps; lamp++) {
            all.add("dead " + x.die(lamp));
        }
        all.add("next lamp " + Check.answer(() -> x.lamp(0, 0, 0, 100, 0)));
        all.add("next cue " + Check.answer(() -> x.cue(0, 0, 0)));
        return all.toString();
    }

    private static void answers(List<Object> all, GelBook x, int lamps, int cues) {
        for (int lamp = 0; lamp < lamps; lamp++) {
            all.add(x.levelOf(lamp) + " " + x.levelAnew(lamp));
            for (int cue = 0; cue < cues; cue++) {
                all.add(x.shines(cue, lamp));
            }
        }
        for (int phase = 0; phase < 3; phase++) {
            all.add(x.loadOf(phase) + " " + x.watts(phase));
            for (int cue = 0; cue < cues; cue++) {
                all.add(x.asks(cue, phase));
            }
        }
        for (int cue = 0; cue < cues; cue++) {
            for (int what = 0; what < 4; what++) {
                all.add(x.playing(cue, what));
            }
        }
        all.add("barred " + x.barred());
    }

    private static void ofLamps() {
        argument("2: bar -1", x -> x.lamp(-1, 0, 0, 100, 0));
        argument("2: bar 4", x -> x.lamp(4, 0, 0, 100, 0));
        argument("2: position -1", x -> x.lamp(0, -1, 0, 100, 0));
        argument("2: position 10", x -> x.lamp(0, 10, 0, 100, 0));
        argument("2: gel -1", x -> x.lamp(0, 0, -1, 100, 0));
        argument("2: gel 6", x -> x.lamp(0, 0, 6, 100, 0));
        argument("2: gel 60", x -> x.lamp(0, 0, 60, 100, 0));
        argument("2: watts 99", x -> x.lamp(0, 0, 0, 99, 0));
        argument("2: watts 2001", x -> x.lamp(0, 0, 0, 2001, 0));
        argument("2: phase -1", x -> x.lamp(0, 0, 0, 100, -1));
        argument("2: phase 3", x -> x.lamp(0, 0, 0, 100, 3));
        index("3: lamp -1", x -> x.die(-1));
        index("3: no lamp 5", x -> x.die(LAMPS));
        argument("4: bars -1", x -> x.house(-1));
        argument("4: bars 16", x -> x.house(16));
    }

    private static void ofPowers() {
        index("5: phase -1", x -> x.power(-1, 0));
        index("5: phase 3", x -> x.power(3, 0));
        index("5: phase 3, watts -1", x -> x.power(3, -1));
        for (int phase = 0; phase < 3; phase++) {
            int one = phase;
            argument("5: watts -1 of " + phase, x -> x.power(one, -1));
            argument("5: watts 20001 of " + phase, x -> x.power(one, 20001));
        }
    }

    private static void ofCues() {
        argument("6: sort -1", x -> x.cue(-1, 0, 0));
        argument("6: sort 2", x -> x.cue(2, 0, 0));
        argument("6: up -1", x -> x.cue(0, -1, 0));
        argument("6: up 61", x -> x.cue(0, 61, 0));
        argument("6: down -1", x -> x.cue(1, 0, -1));
        argument("6: down 61", x -> x.cue(1, 0, 61));
    }

    private static void ofLevels() {
        index("7: cue -1", x -> x.level(-1, 0, 50));
        index("7: no cue 6", x -> x.level(CUES, 0, 50));
        index("7: lamp -1", x -> x.level(0, -1, 50));
        index("7: no lamp 5", x -> x.level(0, LAMPS, 50));
        index("7: no lamp 5, level 101", x -> x.level(0, LAMPS, 101));
        for (int cue = 0; cue < CUES; cue++) {
            int one = cue;
            argument("7: level -1 of " + cue, x -> x.level(one, one % LAMPS, -1));
            argument("7: level 101 of " + cue, x -> x.level(one, one % LAMPS, 101));
            argument("7: level 101 of " + cue + " for the first time", x -> x.level(one, (one + 1) % LAMPS, 101));
        }
    }

    private static void ofFollowers() {
        index("8: cue -1", x -> x.follow(-1, 1, 1));
        index("8: no cue 6", x -> x.follow(CUES, 1, 1));
        index("8: other -2", x -> x.follow(0, -2, 1));
        index("8: no other 6", x -> x.follow(0, CUES, 1));
        index("8: no other 6, ticks 0", x -> x.follow(0, CUES, 0));
        argument("8: ticks 0", x -> x.follow(0, 1, 0));
        argument("8: ticks 61", x -> x.follow(0, 1, 61));
        argument("8: ticks 0 for none", x -> x.follow(0, GelBook.NONE, 0));
        argument("8: ticks 61 for the first one", x -> x.follow(1, 2, 61));
        argument("8: ticks -1 for a follower of its own", x -> x.follow(4, 4, -1));
    }

    private static void ofGoings() {
        index("9: cue -1", x -> x.go(-1));
        index("9: no cue 6", x -> x.go(CUES));
        state("9: too much", x -> x.go(4));
        for (int cue = 0; cue < CUES; cue++) {
            int one = cue;
            GelBook plain = busy();
            GelBook tried = busy();
            plain.power(0, 0);
            tried.power(0, 0);
            Check.same("9: too much of " + cue, STATE, Check.answer(() -> tried.go(one)));
            Check.same("9: too much of " + cue + " changes nothing", standing(plain, LAMPS, CUES, 3),
                    standing(tried, LAMPS, CUES, 3));
        }
    }

    private static void ofReleases() {
        index("10: cue -1", x -> x.release(-1));
        index("10: no cue 6", x -> x.release(CUES));
        state("10: was released", x -> x.release(1));
        state("10: is to follow only", x -> x.release(3));
        state("10: never went", x -> x.release(4));
        state("10: is over", x -> x.release(5));
    }

    private static void ofPasses() {
        argument("11: ticks 0", x -> x.pass(0));
        argument("11: ticks -1", x -> x.pass(-1));
        argument("11: ticks 21", x -> x.pass(21));
    }

    private static void ofAnswers() {
        index("12: lamp -1", x -> x.levelOf(-1));
        index("12: no lamp 5", x -> x.levelOf(LAMPS));
        index("13: lamp -1", x -> x.levelAnew(-1));
        index("13: no lamp 5", x -> x.levelAnew(LAMPS));
        index("14: phase -1", x -> x.loadOf(-1));
        index("14: phase 3", x -> x.loadOf(3));
        index("15: phase -1", x -> x.watts(-1));
        index("15: phase 3", x -> x.watts(3));
        index("16: cue -1", x -> x.asks(-1, 0));
        index("16: no cue 6", x -> x.asks(CUES, 0));
        index("16: phase 3", x -> x.asks(0, 3));
        index("17: cue -1", x -> x.shines(-1, 0));
        index("17: no cue 6", x -> x.shines(CUES, 0));
        index("17: lamp -1", x -> x.shines(0, -1));
        index("17: no lamp 5", x -> x.shines(0, LAMPS));
        index("18: cue -1", x -> x.playing(-1, 0));
        index("18: no cue 6", x -> x.playing(CUES, 0));
        argument("18: what -1", x -> x.playing(0, -1));
        argument("18: what 4", x -> x.playing(0, 4));
    }

    private static GelBook full() {
        GelBook x = new GelBook();
        for (int i = 0; i < 16; i++) {
            x.lamp(i % 4, i % 10, 11 * (i % 4), 100 + 10 * i, i % 3);
        }
        for (int i = 0; i < 12; i++) {
            x.cue(i % 2, 2 * i, i);
            x.level(i, i, 50 + i);
        }
        x.follow(11, 0, 3);
        x.go(11);
        x.go(5);
        x.pass(2);
        return x;
    }

    /** All lamps hang and all cues are made: one more of either is refused. */
    private static void ofFullBooks() {
        GelBook plain = full();
        GelBook tried = full();
        Check.same("2: a 17th lamp", STATE, Check.answer(() -> tried.lamp(0, 0, 0, 2000, 0)));
        Check.same("2: a wrong 17th lamp", ARGUMENT, Check.answer(() -> tried.lamp(0, 0, 0, 2001, 0)));
        Check.same("6: a 13th cue", STATE, Check.answer(() -> tried.cue(1, 60, 60)));
        Check.same("6: a wrong 13th cue", ARGUMENT, Check.answer(() -> tried.cue(1, 61, 60)));
        Check.same("2, 6: change nothing", standing(plain, 16, 12, 1), standing(tried, 16, 12, 1));
        GelBook later = full();
        Check.state("2: a 17th lamp", () -> later.lamp(0, 0, 0, 2000, 0));
        later.go(0);
        later.die(0);
        Check.same("2: it does not stand in", 12, later.shines(0, 0));
        Check.index("17: nor is it there", () -> later.shines(0, 16));
    }
}
