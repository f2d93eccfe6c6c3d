import java.util.function.Supplier;
import java.util.function.ToLongFunction;

/**
 * What is refused for the state that the object is in, and which exception is thrown where several apply: "the one
 * that is named first in the throws clause". Each refused call is also looked at for whether it changes anything.
 */
public final class RefusedTest {
    private static final Class<IndexOutOfBoundsException> INDEX = IndexOutOfBoundsException.class;
    private static final Class<IllegalArgumentException> ARGUMENT = IllegalArgumentException.class;
    private static final Class<IllegalStateException> STATE = IllegalStateException.class;
    private static final int MIN = Integer.MIN_VALUE;
    private static final int MAX = Integer.MAX_VALUE;
    private static final int[][] NOWHERE = {
        {-1, 0}, {2, 0}, {0, -1}, {1, 8}, {-1, -1}, {2, 8}, {MIN, 7}, {MAX, 0}, {0, MIN}, {1, MAX}};
    private static final int[] NO_WAYS = {-1, 2, MIN, MAX};
    private static final int[] NO_BEATS = {0, 101, -1, MIN, MAX};

    private final Check check = new Check();

    public static void main(String[] args) {
        RefusedTest test = new RefusedTest();
        test.wayOrToneIsNamedBeforeTheNumber();
        test.settingIsNamedBeforeItsValue();
        test.insultBeyondAThousand();
        test.insultByTooMuchIsNamedBeforeTheSum();
        test.beatsBeyondTheLimit();
        test.wrongBeatsAreNamedBeforeTheLimit();
        test.wayIsNamedBeforeBeats();
        test.whatWouldBeIsToldBeyondTheLimit();
        test.appendToAFullBuffer();
        test.wrongCodeIsNamedBeforeTheFullBuffer();
        test.sayWhatIsNotComplete();
        test.sayTooManyBits();
        test.notCompleteIsNamedBeforeTooManyBits();
        test.undoWithoutASavedState();
        test.refusedCallsSaveNoState();
        test.check.end();
    }

    private void everywhere(String call, Class<? extends RuntimeException> want, ToLongFunction<AccentModems> called) {
        check.dueRefused(call, want, Busy.BUSY, called);
        check.dueRefused(call, want, Busy.FEW, called);
    }

    private void wayOrToneIsNamedBeforeTheNumber() {
        for (int[] p : NOWHERE) {
            String there = "(" + p[0] + ", " + p[1] + ", ..)";
            everywhere("build" + there + " of nothing", INDEX, x -> x.build(p[0], p[1], 4, 20));
            everywhere("build" + there + " of less than nothing", INDEX, x -> x.build(p[0], p[1], -1, 20));
            everywhere("build" + there + " of too much", INDEX, x -> x.build(p[0], p[1], 0, 97));
            everywhere("build" + there + " of too little", INDEX, x -> x.build(p[0], p[1], 3, -1));
            everywhere("build" + there + " all wrong", INDEX, x -> x.build(p[0], p[1], MAX, MIN));
            everywhere("carry" + there, INDEX, x -> x.carry(p[0], p[1], 5));
            everywhere("carry" + there, INDEX, x -> x.carry(p[0], p[1], -1));
            everywhere("insult" + there, INDEX, x -> x.insult(p[0], p[1], 301));
            everywhere("insult" + there, INDEX, x -> x.insult(p[0], p[1], -301));
            everywhere("street" + there, INDEX, x -> x.street(p[0], p[1], 7));
            everywhere("street" + there, INDEX, x -> x.street(p[0], p[1], -1));
            everywhere("accent" + there, INDEX, x -> x.accent(p[0], p[1], 11));
            everywhere("accent" + there, INDEX, x -> x.accent(p[0], p[1], -1));
        }
    }

    private void settingIsNamedBeforeItsValue() {
        for (int setting : new int[] {-1, 3, MIN, MAX}) {
            for (int value : new int[] {0, 65, MIN, MAX}) {
                everywhere("set(" + setting + ", " + value + ")", INDEX, x -> x.set(setting, value));
            }
        }
    }

    /** An object on which so much of an insult waits. */
    private static Supplier<AccentModems> insulted(int way, int tone, int sum) {
        return () -> {
            AccentModems x = new AccentModems();
            int left = sum;
            while (left != 0) {
                int by = Math.max(-300, Math.min(300, left));
                x.insult(way, tone, by);
                left -= by;
            }
            return x;
        };
    }

    // "IllegalStateException if it would be below -1000 or above 1000"
    private void insultBeyondAThousand() {
        int[][] rows = {{1000, 1}, {1000, 300}, {999, 2}, {800, 201}, {701, 300}, {-1000, -1}, {-1000, -300},
            {-999, -2}, {-800, -201}, {-701, -300}};
        for (int[] row : rows) {
            check.dueRefused("insult by " + row[1] + " where " + row[0] + " waits", STATE, insulted(1, 7, row[0]),
                    x -> x.insult(1, 7, row[1]));
        }
        int[][] fine = {{1000, 0}, {999, 1}, {700, 300}, {1000, -300}, {-1000, 0}, {-999, -1}, {-700, -300},
            {-1000, 300}};
        for (int[] row : fine) {
            AccentModems x = insulted(0, 0, row[0]).get();
            check.due("insult by " + row[1] + " where " + row[0] + " waits", x.insult(0, 0, row[1]), row[0] + row[1]);
            check.due("it waits", x.street(0, 0, 4), row[0] + row[1]);
            check.due("another tone has room", x.insult(0, 1, 300), 300);
            check.due("the other way has room", x.insult(1, 0, -300), -300);
        }
    }

    private void insultByTooMuchIsNamedBeforeTheSum() {
        for (int by : new int[] {301, 1001, MAX}) {
            check.dueRefused("insult by " + by + " at 1000", ARGUMENT, insulted(0, 3, 1000), x -> x.insult(0, 3, by));
            check.dueRefused("insult by " + by + " at -1000", ARGUMENT, insulted(0, 3, -1000), x -> x.insult(0, 3, by));
        }
        for (int by : new int[] {-301, -1001, MIN}) {
            check.dueRefused("insult by " + by + " at 1000", ARGUMENT, insulted(0, 3, 1000), x -> x.insult(0, 3, by));
            check.dueRefused("insult by " + by + " at -1000", ARGUMENT, insulted(0, 3, -1000), x -> x.insult(0, 3, by));
        }
        check.dueRefused("insult no tone at 1000", INDEX, insulted(0, 7, 1000), x -> x.insult(0, 8, 300));
        check.dueRefused("insult no tone by 301 at 1000", INDEX, insulted(0, 7, 1000), x -> x.insult(0, 8, 301));
    }

    /** An object that has used so many beats, by learning and sending on both ways in turn. */
    private static Supplier<AccentModems> used(int beats) {
        return () -> {
            AccentModems x = new AccentModems();
            x.carry(0, 1, 2);
            Check.say(x, "a:12;b:34");
            int left = beats;
            for (int i = 0; left > 0; i++) {
                int now = Math.min(100, left);
                if (i % 4 < 2) {
                    x.send(i % 2, now);
                } else {
                    x.learn(i % 2, now);
                }
                left -= now;
            }
            return x;
        };
    }

    // "IllegalStateException if there would be more than 5000 beats of learning and sending, on both ways together"
    private void beatsBeyondTheLimit() {
        int[][] rows = {{5000, 1}, {5000, 100}, {4999, 2}, {4999, 100}, {4901, 100}, {4950, 51}};
        for (int[] row : rows) {
            for (int way = 0; way < 2; way++) {
                int w = way;
                String there = "(" + way + ", " + row[1] + ") behind " + row[0] + " beats";
                check.dueRefused("learn" + there, STATE, used(row[0]), x -> x.learn(w, row[1]));
                check.dueRefused("send" + there, STATE, used(row[0]), x -> x.send(w, row[1]));
            }
        }
        int[][] fine = {{4999, 1}, {4900, 100}, {4950, 50}};
        for (int[] row : fine) {
            for (int way = 0; way < 2; way++) {
                AccentModems x = used(row[0]).get();
                x.learn(way, row[1]);
                check.due("beats", x.count(0), 5000);
                AccentModems y = used(row[0]).get();
                y.send(way, row[1]);
                check.due("beats", y.count(0), 5000);
                y.undo();
                y.learn(1 - way, row[1]);
                check.due("beats behind undo", y.count(0), 5000);
            }
        }
        // one way and one kind alone reaches the limit as well
        AccentModems x = new AccentModems();
        AccentModems y = new AccentModems();
        for (int i = 0; i < 50; i++) {
            x.send(1, 100);
            y.learn(0, 100);
        }
        check.dueThrow("send by the other way", STATE, () -> x.send(0, 1));
        check.dueThrow("learn behind sending", STATE, () -> x.learn(1, 1));
        check.dueThrow("send behind learning", STATE, () -> y.send(0, 1));
        check.dueThrow("learn by the other way", STATE, () -> y.learn(1, 1));
    }

    private void wrongBeatsAreNamedBeforeTheLimit() {
        for (int beats : NO_BEATS) {
            for (int way = 0; way < 2; way++) {
                int w = way;
                String there = "(" + way + ", " + beats + ")";
                check.dueRefused("learn" + there, ARGUMENT, Busy.TIRED, x -> x.learn(w, beats));
                check.dueRefused("send" + there, ARGUMENT, Busy.TIRED, x -> x.send(w, beats));
            }
        }
        check.dueRefused("learn 101 of 100", ARGUMENT, used(4900), x -> x.learn(0, 101));
        check.dueRefused("send 101 of 100", ARGUMENT, used(4900), x -> x.send(0, 101));
    }

    private void wayIsNamedBeforeBeats() {
        for (int way : NO_WAYS) {
            for (Busy when : new Busy[] {Busy.BUSY, Busy.FEW, Busy.TIRED}) {
                for (int beats : NO_BEATS) {
                    String there = "(" + way + ", " + beats + ")";
                    check.dueRefused("learn" + there, INDEX, when, x -> x.learn(way, beats));
                    check.dueRefused("send" + there, INDEX, when, x -> x.send(way, beats));
                    check.dueRefused("ifSent" + there, INDEX, when, x -> x.ifSent(way, beats, 0));
                    check.dueRefused("ifSent" + there + " of nothing", INDEX, when, x -> x.ifSent(way, beats, 3));
                    check.dueRefused("ifLearned" + there, INDEX, when, x -> x.ifLearned(way, beats));
                }
                check.dueRefused("ifSent(" + way + ", 1, 3)", INDEX, when, x -> x.ifSent(way, 1, 3));
                check.dueRefused("ifSent(" + way + ", 1, -1)", INDEX, when, x -> x.ifSent(way, 1, -1));
                // here the way and the limit apply
                check.dueRefused("learn(" + way + ", 1)", INDEX, when, x -> x.learn(way, 1));
                check.dueRefused("send(" + way + ", 100)", INDEX, when, x -> x.send(way, 100));
                check.dueRefused("waits(" + way + ", 0)", INDEX, when, x -> x.waits(way, 0));
                check.dueRefused("waits(" + way + ", -1)", INDEX, when, x -> x.waits(way, -1));
            }
        }
        for (int beats : NO_BEATS) {
            for (int what : new int[] {-1, 3, MIN, MAX}) {
                everywhere("ifSent(0, " + beats + ", " + what + ")", ARGUMENT, x -> x.ifSent(0, beats, what));
            }
        }
    }

    // "what would be; nothing is changed, and the limit of 5000 beats does not matter"
    private void whatWouldBeIsToldBeyondTheLimit() {
        for (int beats : new int[] {4901, 4999, 5000}) {
            AccentModems x = new AccentModems();
            PlainModems plain = new PlainModems();
            for (int left = beats; left > 0; left -= 100) {
                x.send(0, Math.min(100, left));
                plain.send(0, Math.min(100, left));
            }
            for (int way = 0; way < 2; way++) {
                x.build(way, 2, 3, 60);
                plain.build(way, 2, 3, 60);
                x.carry(way, 2, 3);
                plain.carry(way, 2, 3);
                x.insult(way, 2, 100);
                plain.insult(way, 2, 100);
            }
            for (char c : "a:5f;b:05a".toCharArray()) {
                x.append(c);
                plain.append(c);
            }
            x.say();
            plain.say();
            check.due("beats", x.count(0), beats);
            for (int way = 0; way < 2; way++) {
                for (int what = 0; what <= 2; what++) {
                    check.due("ifSent " + what, x.ifSent(way, 100, what), plain.ifSent(way, 100, what));
                    check.due("ifSent " + what, x.ifSent(way, 1, what), plain.ifSent(way, 1, what));
                }
                check.due("ifLearned", x.ifLearned(way, 100), plain.ifLearned(way, 100));
                check.due("ifLearned", x.ifLearned(way, 1), plain.ifLearned(way, 1));
                check.due("beatsFor", x.beatsFor(way), plain.beatsFor(way));
                check.due("bestLesson", x.bestLesson(way), plain.bestLesson(way));
                check.due("sure", x.sure(way, 2), 1);
                check.due("hurts", x.hurts(way, 2), plain.hurts(way, 2));
                check.dueDouble("rightShare", x.rightShare(way), 1.0);
            }
            check.due("digest", x.digest(), plain.digest());
            check.due("beats behind what would be", x.count(0), beats);
        }
        for (int way : NO_WAYS) {
            check.dueRefused("ifLearned beyond the limit", INDEX, Busy.TIRED, x -> x.ifLearned(way, 100));
            check.dueRefused("ifSent beyond the limit", INDEX, Busy.TIRED, x -> x.ifSent(way, 100, 0));
        }
        check.dueRefused("ifLearned beyond the limit", ARGUMENT, Busy.TIRED, x -> x.ifLearned(0, 101));
        check.dueRefused("ifSent beyond the limit", ARGUMENT, Busy.TIRED, x -> x.ifSent(0, 0, 0));
    }

    // "IllegalStateException if the buffer has 60 characters"
    private void appendToAFullBuffer() {
        for (int code : new int[] {33, '0', 'a', ';', 126}) {
            check.dueRefused("append " + code, STATE, Busy.FULL, x -> x.append(code));
        }
        AccentModems x = new AccentModems();
        for (int length = 1; length <= 60; length++) {
            check.due("append", x.append('x'), length);
        }
        check.dueThrow("append the 61st", STATE, () -> x.append('x'));
        check.due("clearBuffer", x.clearBuffer(), 60);
        check.due("append to an empty one", x.append('x'), 1);
    }

    private void wrongCodeIsNamedBeforeTheFullBuffer() {
        for (int code : new int[] {32, 127, 0, -1, MIN, MAX}) {
            check.dueRefused("append " + code, ARGUMENT, Busy.FULL, x -> x.append(code));
        }
    }

    private static Supplier<AccentModems> with(Busy busy, String text) {
        return () -> {
            AccentModems x = busy.recipe.get();
            x.clearBuffer();
            Check.append(x, text);
            return x;
        };
    }

    // "IllegalArgumentException if the buffer is not a complete row of messages"
    private void sayWhatIsNotComplete() {
        String[] texts = {"", "a", "b", "a:", "b:", "a:0;", "a:0;b", "a:0;b:", "a:0;b:1;", ";", ":", "0", "a:;b:1",
            "a:g", "a:0,b:1", "c:0", "A:0", "a:F", "a:0;;b:1", "a:0b:1", "a:0;b:1x", "!", "~", "a::0",
            "aa:0", "a:" + "0".repeat(57) + ";", "a:0;".repeat(15), "a:0;".repeat(14) + "b:;0", "x".repeat(60)};
        for (String text : texts) {
            for (Busy busy : new Busy[] {Busy.FRESH, Busy.BUSY, Busy.FEW}) {
                check.dueRefused("say " + text, ARGUMENT, with(busy, text), x -> x.say());
            }
        }
    }

    /** Rows on which so many bits wait there and back, a multiple of 4 up to 232, and a text in the buffer. */
    private static Supplier<AccentModems> waiting(int there, int back, String text) {
        return () -> {
            AccentModems x = new AccentModems();
            if (there > 0) {
                Check.say(x, "a:" + "6".repeat(there / 4));
            }
            if (back > 0) {
                Check.say(x, "b:" + "9".repeat(back / 4));
            }
            Check.append(x, text);
            return x;
        };
    }

    // "IllegalStateException if more than 256 bits would wait on a way"; "all or none"
    private void sayTooManyBits() {
        check.dueRefused("say there", STATE, waiting(200, 0, "a:" + "1".repeat(15)), x -> x.say());
        check.dueRefused("say back", STATE, waiting(0, 200, "b:" + "1".repeat(15)), x -> x.say());
        check.dueRefused("say there, behind what fits back", STATE, waiting(232, 0, "b:123;a:1234567"), x -> x.say());
        check.dueRefused("say there, before what fits back", STATE, waiting(232, 0, "a:1234567;b:123"), x -> x.say());
        check.dueRefused("say back, behind what fits there", STATE, waiting(0, 232, "a:123;b:1234567"), x -> x.say());
        check.dueRefused("say by several messages", STATE, waiting(232, 0, "a:123;b:1;a:1234"), x -> x.say());
        check.dueRefused("say both", STATE, waiting(232, 232, "a:1234567;b:1234567"), x -> x.say());
        check.dueRefused("say behind full rows", STATE, Busy.FULL, x -> x.say());
        AccentModems x = waiting(200, 232, "a:" + "1".repeat(14) + ";b:123456").get();
        check.due("256 bits on each way", x.say(), 80);
        check.due("bits there", x.count(2), 256);
        check.due("bits back", x.count(3), 256);
        // one digit more than there is room for is one digit too many, but the other way does not count for it
        AccentModems y = waiting(200, 0, "b:" + "1".repeat(58)).get();
        check.due("each way has its own room", y.say(), 232);
        AccentModems z = new AccentModems();
        z.carry(0, 0, 1);
        Check.say(z, "a:" + "6".repeat(58));
        Check.say(z, "a:" + "6".repeat(6));
        for (int beats = 1; beats <= 3; beats++) {
            z.send(0, 1);
            int taken = beats;
            check.dueThrow("room for " + taken + " bits", STATE, () -> Check.say(z, "a:0"));
            check.due("the buffer stays", z.clearBuffer(), 3);
            check.due("the bits stay", z.count(2), 256 - taken);
        }
        z.send(0, 1);
        check.due("room for 4 bits", Check.say(z, "a:0"), 4);
        check.due("full again", z.count(2), 256);
    }

    private void notCompleteIsNamedBeforeTooManyBits() {
        String[] texts = {"", "a:0;", "a:" + "1".repeat(57) + ";", "a:" + "1".repeat(57) + "g",
            "b:" + "1".repeat(20) + ";a", "a:123;b:", "c:" + "1".repeat(58), "a:1;;b:1"};
        for (String text : texts) {
            check.dueRefused("say " + text, ARGUMENT, with(Busy.FULL, text), x -> x.say());
        }
    }

    // "IllegalStateException if there is none"
    private void undoWithoutASavedState() {
        check.dueRefused("undo a new object", STATE, Busy.FRESH, x -> x.undo());
        for (Busy busy : Busy.values()) {
            Supplier<AccentModems> undone = () -> {
                AccentModems x = busy.recipe.get();
                int saved = x.count(12);
                for (int left = saved - 1; left >= 0; left--) {
                    check.due("undo", x.undo(), left);
                }
                return x;
            };
            check.dueRefused("undo all and one more, " + busy, STATE, undone, x -> x.undo());
        }
    }

    // "Each method that is marked undoable and does not throw an exception saves the state"
    private void refusedCallsSaveNoState() {
        AccentModems x = new AccentModems();
        check.dueThrow("build", ARGUMENT, () -> x.build(0, 0, 0, 97));
        check.dueThrow("carry", ARGUMENT, () -> x.carry(0, 0, 5));
        check.dueThrow("insult", ARGUMENT, () -> x.insult(0, 0, 301));
        check.dueThrow("set", ARGUMENT, () -> x.set(0, 0));
        check.dueThrow("learn", ARGUMENT, () -> x.learn(0, 0));
        check.dueThrow("send", ARGUMENT, () -> x.send(0, 0));
        check.dueThrow("forget", INDEX, () -> x.forget(2));
        check.dueThrow("say", ARGUMENT, () -> x.say());
        check.due("saved states", x.count(12), 0);
        check.dueThrow("undo", STATE, () -> x.undo());
        x.set(0, 9);
        check.due("saved states", x.count(12), 1);
        check.dueThrow("build", INDEX, () -> x.build(0, 8, 0, 64));
        check.due("saved states", x.count(12), 1);
    }
}
