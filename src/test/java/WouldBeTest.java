import java.util.function.Supplier;

/** Promises 20 to 27: what is sure, what would be, the share of right bits, and the digest. */
public final class WouldBeTest {
    private static final Class<IndexOutOfBoundsException> INDEX = IndexOutOfBoundsException.class;
    private static final Class<IllegalArgumentException> ARGUMENT = IllegalArgumentException.class;
    private static final int MIN = Integer.MIN_VALUE;
    private static final int MAX = Integer.MAX_VALUE;
    private static final int[] NO_WAYS = {-1, 2, MIN, MAX};
    private static final int[][] NOWHERE = {{-1, 0}, {2, 0}, {MIN, 7}, {MAX, 0}, {0, -1}, {1, 8}, {0, MIN}, {1, MAX}};

    private final Check check = new Check();

    public static void main(String[] args) {
        WouldBeTest test = new WouldBeTest();
        test.sureOfNoise();
        test.sureOfGainsAndEchoes();
        test.sureOfALearnedAccent();
        test.sendingAhead();
        test.sendingAheadTellsOfShyTones();
        test.learningAhead();
        test.beyondTheLimitOfBeats();
        test.beatsForBits();
        test.theBestLesson();
        test.hurtingInsults();
        test.hurtingIsOfTheNextSign();
        test.hurtingWithNoise();
        test.rightShares();
        test.theDigest();
        test.nothingIsChanged();
        test.wrongArguments();
        test.check.end();
    }

    private void sureOfNoise() {
        int[][] rows = {{0, 4}, {11, 4}, {12, 3}, {27, 3}, {28, 2}, {59, 2}, {60, 1}};
        AccentModems x = new AccentModems();
        for (int[] row : rows) {
            x.build(1, 5, 3, row[0]);
            check.due("sure with the noise " + row[0], x.sure(1, 5), row[1]);
            check.due("sure of another", x.sure(0, 5), 4);
        }
    }

    private void sureOfGainsAndEchoes() {
        // gain, echoes, noise, sure
        int[][] rows = {
            {16, 0, 0, 27, 1}, {16, 0, 0, 28, 0}, {96, 0, 0, 0, 1}, {96, 0, 0, 60, 0}, {67, 0, 0, 0, 4}, {68, 0, 0, 0, 3},
            {61, 0, 0, 0, 4}, {60, 0, 0, 0, 3}, {64, 8, 0, 0, 2}, {64, -8, 0, 0, 2}, {64, 0, 8, 0, 2}, {64, 0, -8, 0, 2},
            {64, 8, -8, 0, 1}, {64, 2, 0, 3, 4}, {64, 2, 0, 4, 3}, {64, 0, -3, 0, 3}, {64, 0, -2, 3, 4},
            {65, 0, 0, 8, 4}, {65, 0, 0, 9, 3}, {65, 0, 0, 24, 3}, {65, 0, 0, 25, 2}, {64, 32, 0, 0, 0},
            {64, 15, 15, 3, 1}, {64, 15, 15, 4, 0}, {64, 15, 16, 0, 0}};
        for (int[] row : rows) {
            AccentModems x = new AccentModems();
            for (int what = 0; what < 4; what++) {
                x.build(0, 2, what, row[what]);
            }
            check.due("sure of " + row[0] + ", " + row[1] + ", " + row[2] + ", " + row[3], x.sure(0, 2), row[4]);
        }
    }

    private void sureOfALearnedAccent() {
        AccentModems x = new AccentModems();
        x.set(0, 1);
        x.build(0, 0, 0, 96);
        x.learn(0, 1);
        check.due("gain of the accent", x.accent(0, 0, 0), 128);
        x.build(0, 0, 0, 95);
        // 33 * 128 / 64 + 4 is 70, with 192: 103, with 224: 119, and the room is 256, 128, 64
        check.due("sure", x.sure(0, 0), 2);
        x.build(0, 0, 3, 24);
        check.due("127 is less than 128", x.sure(0, 0), 2);
        x.build(0, 0, 3, 25);
        check.due("128 is not", x.sure(0, 0), 1);
        x.carry(0, 0, 0);
        check.due("what it carries does not matter", x.sure(0, 0), 1);
        AccentModems y = new AccentModems();
        y.set(0, 2);
        y.learn(0, 2);
        y.insult(0, 1, 64);
        y.learn(0, 1);
        // the echoes of the accent are 32 each by their size: 256 of them are too many, unless the street has them
        y.build(0, 1, 0, Math.max(16, Math.min(96, y.accent(0, 1, 0))));
        check.due("echoes that are not there", y.sure(0, 1), 0);
        y.build(0, 1, 1, y.accent(0, 1, 1));
        y.build(0, 1, 2, y.accent(0, 1, 2));
        check.due("echoes that are known", y.sure(0, 1), 4);
    }

    private void sendingAhead() {
        AccentModems x = Busy.busy();
        for (int way = 0; way < 2; way++) {
            for (int beats : new int[] {1, 2, 5, 17, 100}) {
                long before = x.digest();
                int wrong = x.ifSent(way, beats, 0);
                int shies = x.ifSent(way, beats, 1);
                int waiting = x.ifSent(way, beats, 2);
                check.due("nothing changed", x.digest(), before);
                int shy = x.count(10);
                check.due("wrong bits, " + beats + " beats", wrong, x.send(way, beats));
                check.due("shy tones, " + beats + " beats", shies, x.count(10) - shy);
                check.due("bits that wait, " + beats + " beats", waiting, x.count(2 + way));
                x.undo();
            }
        }
        check.due("wrong bits of a new object", new AccentModems().ifSent(0, 100, 0), 0);
    }

    private void sendingAheadTellsOfShyTones() {
        AccentModems x = new AccentModems();
        x.set(2, 1);
        x.carry(0, 0, 2);
        x.carry(0, 1, 4);
        x.insult(0, 0, 300);
        x.insult(0, 1, 300);
        Check.say(x, "a:0000");
        // -192 + 300 is taken for 10, -240 + 300 for 1001
        check.due("wrong bits", x.ifSent(0, 1, 0), 3);
        check.due("shy tones", x.ifSent(0, 1, 1), 2);
        check.due("bits that wait", x.ifSent(0, 1, 2), 10);
        check.due("wrong bits of 4 beats", x.ifSent(0, 4, 0), 3);
        check.due("shy tones of 4 beats", x.ifSent(0, 4, 1), 2);
        check.due("bits that wait behind 2 beats", x.ifSent(0, 2, 2), 6);
        check.due("bits that wait behind 4 beats", x.ifSent(0, 4, 2), 0);
        check.due("the other way", x.ifSent(1, 4, 0) + x.ifSent(1, 4, 1) + x.ifSent(1, 4, 2), 0);
        check.due("shy tones so far", x.count(10), 0);
        x.send(0, 1);
        check.due("those before do not count", x.ifSent(0, 1, 1), 0);
    }

    private void learningAhead() {
        AccentModems x = Busy.busy();
        for (int way = 0; way < 2; way++) {
            for (int beats : new int[] {1, 2, 7, 8, 9, 40, 100}) {
                long before = x.digest();
                int bits = x.ifLearned(way, beats);
                check.due("nothing changed", x.digest(), before);
                check.due("bits of " + beats + " beats", bits, x.learn(way, beats));
                x.undo();
            }
        }
        x = new AccentModems();
        check.due("a new object", x.ifLearned(0, 1), 32);
        x.insult(1, 4, 300);
        check.due("an insult", x.ifLearned(1, 1), 28);
        check.due("the other way", x.ifLearned(0, 1), 32);
        check.due("what is carried does not matter", x.count(9), 0);
    }

    private void beyondTheLimitOfBeats() {
        AccentModems x = Busy.tired();
        Check.say(x, "a:ff");
        x.carry(0, 0, 1);
        check.due("ifSent", x.ifSent(0, 100, 0), 0);
        check.due("bits that would wait", x.ifSent(0, 3, 2), 5);
        check.due("ifLearned", x.ifLearned(1, 100), 32);
        check.due("beatsFor", x.beatsFor(0), 8);
        check.due("bestLesson", x.bestLesson(0), 1);
        check.due("hurts", x.hurts(0, 0), 128);
        check.due("beats", x.count(0), 5000);
    }

    private void beatsForBits() {
        AccentModems x = new AccentModems();
        check.due("none waits", x.beatsFor(0), 0);
        Check.say(x, "a:f");
        check.due("no bits are carried", x.beatsFor(0), -1);
        check.due("none waits on the other way", x.beatsFor(1), 0);
        x.carry(0, 7, 3);
        check.due("4 bits by 3", x.beatsFor(0), 2);
        x.carry(0, 3, 1);
        check.due("4 bits by 4", x.beatsFor(0), 1);
        x.carry(0, 7, 0);
        check.due("4 bits by 1", x.beatsFor(0), 4);
        Check.say(x, "a:" + "f".repeat(58));
        Check.say(x, "a:" + "f".repeat(5));
        check.due("256 bits by 1", x.beatsFor(0), 256);
        x.carry(1, 0, 4);
        Check.say(x, "b:1");
        x.set(2, 1);
        x.insult(1, 0, 300);
        check.due("becoming shy behind the last beat", x.beatsFor(1), 1);
        x.carry(1, 0, 1);
        check.due("becoming too shy", x.beatsFor(1), -1);
        x.carry(1, 0, 2);
        check.due("becoming shy", x.beatsFor(1), 3);
    }

    private void theBestLesson() {
        check.due("a new object", new AccentModems().bestLesson(0), 1);
        for (int i = 0; i < 40; i++) {
            AccentModems x = lessonWith(i);
            for (int way = 0; way < 2; way++) {
                check.due("bestLesson " + i, x.bestLesson(way), bestOfForty(x, way));
            }
        }
        AccentModems slow = slopeWith(52, 18, 6);
        check.due("best by 40 beats", slow.bestLesson(0), 40);
        check.due("best by 40 beats, told by ifLearned", bestOfForty(slow, 0), 40);
        AccentModems quick = slopeWith(3, 17, 8);
        check.due("better by 41 beats", quick.ifLearned(0, 41) > quick.ifLearned(0, 39) ? 1 : 0, 1);
        check.due("best of 40", quick.bestLesson(0), 39);
        // the error of the first beat is forgotten behind the ninth one only
        AccentModems x = new AccentModems();
        x.set(0, 64);
        x.insult(0, 0, 32);
        check.due("behind the bad beat", x.bestLesson(0), 9);
        check.due("the other way", x.bestLesson(1), 1);
    }

    private static int bestOfForty(AccentModems x, int way) {
        int best = 1;
        for (int beats = 2; beats <= 40; beats++) {
            best = x.ifLearned(way, beats) > x.ifLearned(way, best) ? beats : best;
        }
        return best;
    }

    private static AccentModems slopeWith(int patience, int gain, int margin) {
        AccentModems x = new AccentModems();
        x.set(0, patience);
        x.set(1, margin);
        for (int tone = 0; tone < 8; tone++) {
            x.build(0, tone, 0, gain + 7 * tone);
        }
        return x;
    }

    private static AccentModems lessonWith(int i) {
        AccentModems x = new AccentModems();
        x.set(0, 1 + i * 7 % 64);
        x.set(1, 4 + i % 9);
        for (int tone = 0; tone < 8; tone++) {
            x.build(0, tone, 0, 16 + (i * 13 + tone * 29) % 81);
            x.build(0, tone, 1, (i * 5 + tone * 11) % 33 - 16);
            x.build(1, tone, 2, (i * 7 + tone * 3) % 17 - 8);
            x.build(1, tone, 3, (i + tone) % 12);
        }
        return x;
    }

    private void hurtingInsults() {
        AccentModems x = new AccentModems();
        check.due("no bits", x.hurts(0, 0), -1);
        // the sign 0: half a step and 1, since the middle belongs to the lower sign
        int[] low = {129, 65, 33, 17};
        int[] high = {128, 64, 32, 16};
        for (int bits = 1; bits <= 4; bits++) {
            AccentModems y = new AccentModems();
            y.carry(1, 3, bits);
            check.due("the lowest of " + bits + " bits", y.hurts(1, 3), low[bits - 1]);
            Check.say(y, "b:f");
            check.due("the highest of " + bits + " bits", y.hurts(1, 3), high[bits - 1]);
            check.due("the other way", y.hurts(0, 3), -1);
        }
        x.carry(0, 0, 2);
        Check.say(x, "a:4");
        check.due("01", x.hurts(0, 0), 64);
        x.insult(0, 0, 10);
        check.due("01 and 10 that wait", x.hurts(0, 0), 55);
        x.insult(0, 0, -20);
        check.due("01 and -10 that wait", x.hurts(0, 0), 54);
        x.insult(0, 0, -54);
        check.due("01 and -64 that wait: wrong without one", x.hurts(0, 0), 0);
        x.insult(0, 0, 128);
        check.due("01 and 64 that wait", x.hurts(0, 0), 1);
        x.insult(0, 0, 1);
        check.due("01 and 65 that wait", x.hurts(0, 0), 0);
    }

    private void hurtingIsOfTheNextSign() {
        AccentModems x = new AccentModems();
        x.carry(0, 0, 4);
        x.carry(0, 1, 1);
        x.carry(0, 2, 1);
        Check.say(x, "a:08");
        check.due("the tone 0 takes 0000", x.hurts(0, 0), 17);
        check.due("the tone 1 takes 1", x.hurts(0, 1), 128);
        check.due("the tone 2 takes 0", x.hurts(0, 2), 129);
        check.due("an empty tone", x.hurts(0, 3), -1);
        // with what waits at its bound, and more beyond it
        AccentModems y = new AccentModems();
        y.carry(0, 0, 1);
        Check.say(y, "a:8");
        for (int by : new int[] {300, 300, 300, 100}) {
            y.insult(0, 0, by);
        }
        check.due("none hurts", y.hurts(0, 0), -1);
        y.insult(0, 0, -300);
        y.insult(0, 0, -300);
        check.due("528 - 300 is above 0", y.hurts(0, 0), -1);
        y.insult(0, 0, -228);
        check.due("300 - 300 is in the middle", y.hurts(0, 0), 300);
        y.insult(0, 0, 1);
        check.due("301 - 300 is above it", y.hurts(0, 0), -1);
        check.due("what waits stays", y.street(0, 0, 4), 173);
    }

    private void hurtingWithNoise() {
        AccentModems x = new AccentModems();
        for (int tone = 0; tone < 3; tone++) {
            x.carry(0, tone, 1);
            x.build(0, tone, 3, 60);
        }
        // 16838, 5758 and 10113 modulo 121, less 60, are -41, 11 and 10
        check.due("the first draw", x.hurts(0, 0), 170);
        check.due("the second draw", x.hurts(0, 1), 118);
        check.due("the third draw", x.hurts(0, 2), 59 + 60);
        x.build(0, 0, 3, 0);
        check.due("the second draw with another noise before it", x.hurts(0, 1), 118);
        x.send(0, 1);
        int size = x.hurts(0, 1);
        x.insult(0, 1, size - 1);
        check.due("one less does not hurt", x.ifSent(0, 1, 0), 0);
        x.insult(0, 1, 1);
        check.due("this one hurts", x.ifSent(0, 1, 0), 1);
    }

    private void rightShares() {
        AccentModems x = new AccentModems();
        check.dueDouble("none came", x.rightShare(0), 1.0);
        x.send(0, 3);
        check.dueDouble("none came without bits", x.rightShare(0), 1.0);
        x.carry(0, 0, 1);
        x.insult(0, 0, 300);
        x.send(0, 1);
        check.dueDouble("none is right", x.rightShare(0), 0.0);
        x.send(0, 1);
        check.dueDouble("one of 2", x.rightShare(0), 0.5);
        x.send(0, 1);
        check.dueDouble("2 of 3", x.rightShare(0), 2.0 / 3.0);
        x.send(0, 4);
        check.dueDouble("6 of 7", x.rightShare(0), 6.0 / 7.0);
        check.dueDouble("the other way", x.rightShare(1), 1.0);
        x.undo();
        check.dueDouble("undone", x.rightShare(0), 2.0 / 3.0);
        for (int i = 0; i <= 20; i++) {
            int beats = i;
            Supplier<AccentModems> made = () -> sharesOf(beats);
            long came = made.get().count(5);
            check.dueDouble("many shares", made.get().rightShare(1), came == 0 ? 1.0 : (double) (came - i) / came);
            check.due("bits of a share in the digest", made.get().digest(), Digest.of(made, ""));
        }
    }

    /** A wrong bit for each sending; the first one is of one beat, the second one of 2, and so on. */
    private static AccentModems sharesOf(int sendings) {
        AccentModems x = new AccentModems();
        x.carry(1, 0, 1);
        x.set(2, 50);
        for (int i = 1; i <= sendings; i++) {
            x.insult(1, 0, 300);
            x.send(1, i);
        }
        return x;
    }

    private static AccentModems later() {
        AccentModems x = Busy.busy();
        x.digest();
        x.send(0, 30);
        x.learn(1, 30);
        return x;
    }

    private void theDigest() {
        check.due("digest of a new object", new AccentModems().digest(), Digest.of(AccentModems::new, ""));
        AccentModems x = Busy.busy();
        check.due("digest of a busy object", x.digest(), Digest.of(Busy::busy, "a:7;b"));
        check.due("digest again", x.digest(), Digest.of(Busy::busy, "a:7;b"));
        check.due("digest later", later().digest(), Digest.of(WouldBeTest::later, "a:7;b"));
        Supplier<AccentModems> full = () -> {
            AccentModems y = later();
            y.clearBuffer();
            Check.append(y, "~".repeat(60));
            return y;
        };
        check.due("digest with a full buffer", full.get().digest(), Digest.of(full, "~".repeat(60)));
        theBeatsOfTheDigest();
    }

    private void theBeatsOfTheDigest() {
        Supplier<AccentModems> slow = () -> {
            AccentModems x = new AccentModems();
            x.carry(0, 0, 1);
            Check.say(x, "a:fffff");
            return x;
        };
        AccentModems x = slow.get();
        check.due("bits that would wait behind 4, 5 and 6 beats",
                10000 * x.ifSent(0, 4, 2) + 100 * x.ifSent(0, 5, 2) + x.ifSent(0, 6, 2), 161514);
        check.due("digest with ifSent of 5 beats", x.digest(), Digest.of(slow, ""));
        int told = 0;
        for (int i = 0; i < 40; i++) {
            int lesson = i;
            AccentModems y = lessonWith(i);
            check.due("digest with ifLearned of 12 beats", y.digest(), Digest.of(() -> lessonWith(lesson), ""));
            int bits = y.ifLearned(0, 12);
            told |= bits != y.ifLearned(0, 11) ? 1 : 0;
            told |= bits != y.ifLearned(0, 13) ? 2 : 0;
        }
        check.due("11 and 13 beats would tell something else", told, 3);
    }

    private void nothingIsChanged() {
        Supplier<AccentModems> asked = () -> {
            AccentModems x = Busy.busy();
            for (int i = 0; i < 3; i++) {
                x.digest();
            }
            return x;
        };
        check.dueSame("all behind what would be", Told.by(Busy::busy), Told.by(asked));
        check.due("and it is not undoable", asked.get().count(12), Busy.busy().count(12));
    }

    private void wrongArguments() {
        AccentModems x = Busy.busy();
        for (int[] p : NOWHERE) {
            check.dueThrowUnchanged("sure nowhere", x, INDEX, () -> x.sure(p[0], p[1]));
            check.dueThrowUnchanged("hurts nowhere", x, INDEX, () -> x.hurts(p[0], p[1]));
        }
        for (int way : NO_WAYS) {
            check.dueThrowUnchanged("ifSent nowhere", x, INDEX, () -> x.ifSent(way, 5, 0));
            check.dueThrowUnchanged("ifSent nowhere, no beats", x, INDEX, () -> x.ifSent(way, 0, 0));
            check.dueThrowUnchanged("ifSent nowhere, nothing", x, INDEX, () -> x.ifSent(way, 5, 3));
            check.dueThrowUnchanged("ifLearned nowhere", x, INDEX, () -> x.ifLearned(way, 5));
            check.dueThrowUnchanged("ifLearned nowhere, no beats", x, INDEX, () -> x.ifLearned(way, 101));
            check.dueThrowUnchanged("beatsFor nowhere", x, INDEX, () -> x.beatsFor(way));
            check.dueThrowUnchanged("bestLesson nowhere", x, INDEX, () -> x.bestLesson(way));
            check.dueThrowUnchanged("rightShare nowhere", x, INDEX, () -> (long) x.rightShare(way));
        }
        for (int beats : new int[] {0, -1, 101, MIN, MAX}) {
            check.dueThrowUnchanged("ifSent " + beats + " beats", x, ARGUMENT, () -> x.ifSent(0, beats, 0));
            check.dueThrowUnchanged("ifLearned " + beats + " beats", x, ARGUMENT, () -> x.ifLearned(1, beats));
        }
        for (int what : new int[] {-1, 3, MIN, MAX}) {
            check.dueThrowUnchanged("ifSent, " + what, x, ARGUMENT, () -> x.ifSent(1, 1, what));
        }
    }
}
