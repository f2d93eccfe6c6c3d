/**
 * Each range that the document gives an argument: every number of it is taken, and those beyond its ends are refused
 * with the exception that is named, which changes nothing, whatever state the object is in.
 */
public final class RangesTest {
    private static final Class<IndexOutOfBoundsException> INDEX = IndexOutOfBoundsException.class;
    private static final Class<IllegalArgumentException> ARGUMENT = IllegalArgumentException.class;

    /** A call with the number that is looked at; the other arguments are fine. */
    private interface With {
        long call(AccentModems x, int number);
    }

    private final Check check = new Check();

    public static void main(String[] args) {
        RangesTest test = new RangesTest();
        test.build();
        test.carry();
        test.insult();
        test.set();
        test.learn();
        test.send();
        test.forget();
        test.append();
        test.street();
        test.accent();
        test.waits();
        test.had();
        test.count();
        test.setting();
        test.sure();
        test.ifSent();
        test.ifLearned();
        test.beatsFor();
        test.bestLesson();
        test.hurts();
        test.rightShare();
        test.check.end();
    }

    /** What is beyond the ends is refused, when the object has and has not saved all states that it can. */
    private void refused(String call, int least, int greatest, Class<? extends RuntimeException> want, With with) {
        for (int number : new int[] {least - 1, greatest + 1, Integer.MIN_VALUE, Integer.MAX_VALUE, -least - 1000}) {
            for (Busy when : new Busy[] {Busy.BUSY, Busy.FEW}) {
                check.dueRefused(call + " with " + number, want, when, x -> with.call(x, number));
            }
        }
    }

    /** Each number of the range is taken; the exception, if there is one, is told instead of the answer. */
    private void taken(String call, int least, int greatest, With with) {
        for (int number = least; number <= greatest; number++) {
            AccentModems x = Busy.BUSY.recipe.get();
            try {
                with.call(x, number);
                check.due(call + " with " + number, 0, 0);
            } catch (RuntimeException e) {
                check.complain(call + " with " + number + " threw " + e.getClass().getName());
            }
        }
    }

    /** Each number of the range becomes what is told behind the call. */
    private void kept(String call, int least, int greatest, With with, With told) {
        for (int number = least; number <= greatest; number++) {
            AccentModems x = new AccentModems();
            with.call(x, number);
            check.due(call + " with " + number, told.call(x, 0), number);
        }
    }

    private void range(String call, int least, int greatest, Class<? extends RuntimeException> want, With with) {
        taken(call, least, greatest, with);
        refused(call, least, greatest, want, with);
    }

    // "way: 0 or 1", "tone: 0 to 7": "IndexOutOfBoundsException if there is no such way or tone"
    private void wayAndTone(String call, With onWay, With onTone) {
        range(call + ", way", 0, 1, INDEX, onWay);
        range(call + ", tone", 0, 7, INDEX, onTone);
    }

    private void build() {
        wayAndTone("build", (x, n) -> x.build(n, 3, 0, 64), (x, n) -> x.build(1, n, 0, 64));
        // "IllegalArgumentException if what or value is out of range"; 20 is in the range of each of them
        range("build, what", 0, 3, ARGUMENT, (x, n) -> x.build(0, 7, n, 20));
        // "0: gain, 16 to 96"
        kept("build, gain", 16, 96, (x, n) -> x.build(0, 0, 0, n), (x, n) -> x.street(0, 0, 0));
        refused("build, gain", 16, 96, ARGUMENT, (x, n) -> x.build(0, 0, 0, n));
        // "1: first echo, 2: second echo, -32 to 32"
        kept("build, first echo", -32, 32, (x, n) -> x.build(0, 7, 1, n), (x, n) -> x.street(0, 7, 1));
        refused("build, first echo", -32, 32, ARGUMENT, (x, n) -> x.build(0, 7, 1, n));
        kept("build, second echo", -32, 32, (x, n) -> x.build(1, 0, 2, n), (x, n) -> x.street(1, 0, 2));
        refused("build, second echo", -32, 32, ARGUMENT, (x, n) -> x.build(1, 0, 2, n));
        // "3: noise, 0 to 60"
        kept("build, noise", 0, 60, (x, n) -> x.build(1, 7, 3, n), (x, n) -> x.street(1, 7, 3));
        refused("build, noise", 0, 60, ARGUMENT, (x, n) -> x.build(1, 7, 3, n));
    }

    private void carry() {
        wayAndTone("carry", (x, n) -> x.carry(n, 0, 2), (x, n) -> x.carry(0, n, 2));
        // "bits: 0 to 4": "IllegalArgumentException if bits is out of range"
        kept("carry, bits", 0, 4, (x, n) -> x.carry(1, 7, n), (x, n) -> x.accent(1, 7, 3));
        refused("carry, bits", 0, 4, ARGUMENT, (x, n) -> x.carry(1, 7, n));
    }

    private void insult() {
        wayAndTone("insult", (x, n) -> x.insult(n, 0, 5), (x, n) -> x.insult(0, n, 5));
        // "by: -300 to 300": "IllegalArgumentException if by is out of range"
        kept("insult, by", -300, 300, (x, n) -> x.insult(1, 7, n), (x, n) -> x.street(1, 7, 4));
        refused("insult, by", -300, 300, ARGUMENT, (x, n) -> x.insult(0, 0, n));
    }

    private void set() {
        // "setting: 0 to 2": "IndexOutOfBoundsException if there is no such setting"; 8 is in the range of each of them
        range("set, setting", 0, 2, INDEX, (x, n) -> x.set(n, 8));
        // "0: patience, 1 to 64", "1: the margin in quarters, 4 to 40", "2: .. 1 to 50":
        // "IllegalArgumentException if value is out of range"
        int[][] ends = {{1, 64}, {4, 40}, {1, 50}};
        for (int i = 0; i < 3; i++) {
            int setting = i;
            kept("set " + i, ends[i][0], ends[i][1], (x, n) -> x.set(setting, n), (x, n) -> x.setting(setting));
            refused("set " + i, ends[i][0], ends[i][1], ARGUMENT, (x, n) -> x.set(setting, n));
        }
    }

    private void learn() {
        range("learn, way", 0, 1, INDEX, (x, n) -> x.learn(n, 3));
        // "beats: 1 to 100": "IllegalArgumentException if beats is out of range"
        kept("learn, beats", 1, 100, (x, n) -> x.learn(0, n), (x, n) -> x.count(0));
        refused("learn, beats", 1, 100, ARGUMENT, (x, n) -> x.learn(0, n));
        refused("learn, beats", 1, 100, ARGUMENT, (x, n) -> x.learn(1, n));
    }

    private void send() {
        range("send, way", 0, 1, INDEX, (x, n) -> x.send(n, 3));
        kept("send, beats", 1, 100, (x, n) -> x.send(1, n), (x, n) -> x.count(0));
        refused("send, beats", 1, 100, ARGUMENT, (x, n) -> x.send(0, n));
        refused("send, beats", 1, 100, ARGUMENT, (x, n) -> x.send(1, n));
    }

    private void forget() {
        range("forget, way", 0, 1, INDEX, (x, n) -> x.forget(n));
    }

    private void append() {
        // "code: the character code, 33 to 126": "IllegalArgumentException if code is not 33 to 126"
        range("append", 33, 126, ARGUMENT, (x, n) -> x.append(n));
        for (int code : new int[] {0, 9, 10, 13, 128, 160, 233, 255, 65536 + 'a', 'a' - 65536}) {
            check.dueRefused("append " + code, ARGUMENT, Busy.BUSY, x -> x.append(code));
        }
        for (int code = 33; code <= 126; code++) {
            AccentModems x = new AccentModems();
            AccentModems other = new AccentModems();
            check.due("append " + code, x.append(code), 1);
            other.append(code == 33 ? 34 : 33);
            // the code is the digest's last value
            check.due("code in the digest", x.digest() - other.digest(), code - (code == 33 ? 34 : 33));
        }
    }

    private void street() {
        wayAndTone("street", (x, n) -> x.street(n, 0, 0), (x, n) -> x.street(1, n, 6));
        // "IllegalArgumentException if what is not 0 to 6"
        range("street, what", 0, 6, ARGUMENT, (x, n) -> x.street(1, 7, n));
    }

    private void accent() {
        wayAndTone("accent", (x, n) -> x.accent(n, 0, 0), (x, n) -> x.accent(1, n, 10));
        // "IllegalArgumentException if what is not 0 to 10"
        range("accent, what", 0, 10, ARGUMENT, (x, n) -> x.accent(0, 0, n));
    }

    private void waits() {
        range("waits, way", 0, 1, INDEX, (x, n) -> x.waits(n, 0));
        // "place: its place, from 0": "IndexOutOfBoundsException if .. there are not so many bits"
        for (int way = 0; way < 2; way++) {
            int w = way;
            for (Busy when : Busy.values()) {
                int size = when.recipe.get().count(2 + way);
                for (int place = 0; place < size; place++) {
                    int bit = when.recipe.get().waits(way, place);
                    check.due("a bit", bit == 0 || bit == 1 ? 1 : 0, 1);
                }
                for (int place : new int[] {-1, size, size + 1, Integer.MIN_VALUE, Integer.MAX_VALUE}) {
                    check.dueRefused("waits(" + way + ", " + place + ")", INDEX, when, x -> x.waits(w, place));
                }
            }
        }
        check.due("the rows are empty", Busy.FRESH.recipe.get().count(2) + Busy.FRESH.recipe.get().count(3), 0);
        check.due("the rows are full", Busy.FULL.recipe.get().count(2) + Busy.FULL.recipe.get().count(3), 512);
    }

    private void had() {
        range("had, way", 0, 1, INDEX, (x, n) -> x.had(n));
    }

    private void count() {
        // "IllegalArgumentException if what is not 0 to 12"
        range("count", 0, 12, ARGUMENT, (x, n) -> x.count(n));
    }

    private void setting() {
        range("setting", 0, 2, INDEX, (x, n) -> x.setting(n));
    }

    private void sure() {
        wayAndTone("sure", (x, n) -> x.sure(n, 0), (x, n) -> x.sure(0, n));
    }

    private void ifSent() {
        range("ifSent, way", 0, 1, INDEX, (x, n) -> x.ifSent(n, 2, 0));
        // "IllegalArgumentException if beats or what is out of range"
        range("ifSent, beats", 1, 100, ARGUMENT, (x, n) -> x.ifSent(0, n, 0));
        for (int i = 0; i <= 2; i++) {
            int what = i;
            refused("ifSent " + what + ", beats", 1, 100, ARGUMENT, (x, n) -> x.ifSent(1, n, what));
        }
        range("ifSent, what", 0, 2, ARGUMENT, (x, n) -> x.ifSent(1, 100, n));
    }

    private void ifLearned() {
        range("ifLearned, way", 0, 1, INDEX, (x, n) -> x.ifLearned(n, 2));
        range("ifLearned, beats", 1, 100, ARGUMENT, (x, n) -> x.ifLearned(1, n));
    }

    private void beatsFor() {
        range("beatsFor, way", 0, 1, INDEX, (x, n) -> x.beatsFor(n));
    }

    private void bestLesson() {
        range("bestLesson, way", 0, 1, INDEX, (x, n) -> x.bestLesson(n));
    }

    private void hurts() {
        wayAndTone("hurts", (x, n) -> x.hurts(n, 0), (x, n) -> x.hurts(0, n));
    }

    private void rightShare() {
        range("rightShare, way", 0, 1, INDEX, (x, n) -> (long) x.rightShare(n));
    }
}
