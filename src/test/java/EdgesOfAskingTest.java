import java.util.List;
import java.util.function.Supplier;

/** The boundary cases of promises 18 and 20 to 27, sentence by sentence: what is sure, what would be, the digest. */
public final class EdgesOfAskingTest {
    private final Check check = new Check();

    public static void main(String[] args) {
        EdgesOfAskingTest test = new EdgesOfAskingTest();
        test.countsOfANewAndOfAFullObject();
        test.countsOfEachWay();
        test.sureWhereTheNoiseMeetsTheRoom();
        test.sureWhereTheGainMeetsTheRoom();
        test.sureWhereTheEchoesMeetTheRoom();
        test.sureOfKnownEchoes();
        test.sureIsCut();
        test.notEvenSureOfOneBit();
        test.sureOfFourBitsAtMost();
        test.ifSentTheLeastAndTheMostBeats();
        test.ifSentOfANewObject();
        test.ifSentTellsOfThisSendingAlone();
        test.ifLearnedTheLeastAndTheMostBeats();
        test.beatsForNone();
        test.beatsForBitsThatNoToneCarries();
        test.beatsForTheLastBit();
        test.beatsForTheMostThereAre();
        test.beatsForTonesThatBecomeShy();
        test.theLeastOfTheBestLessons();
        test.lessonsOfOneAndOfForty();
        test.lessonsBeforeDoNotCount();
        test.hurtsWithoutBits();
        test.hurtsWithoutAnInsult();
        test.hurtsByOne();
        test.hurtsByThreeHundred();
        test.hurtsBelowZero();
        test.hurtsBeyondTheBoundOfWhatWaits();
        test.hurtsWhereNoBitIsLeft();
        test.askingWhatThereIsChangesNothing();
        test.askingForWaitingBitsChangesNothing();
        test.askingWhatWouldBeChangesNothing();
        test.theDigestOfANewObject();
        test.theDigestGoesOverAndAround();
        test.theDigestOfEachState();
        test.check.end();
    }

    private void countsOfANewAndOfAFullObject() {
        AccentModems x = new AccentModems();
        for (int what = 0; what <= 12; what++) {
            check.due("count(" + what + ") of a new object", x.count(what), what == 1 ? 1 : 0);
        }
        AccentModems full = Busy.FULL.recipe.get();
        int[] due = {0, 1, 256, 256, 0, 0, 0, 0, 3, 4, 0, 2, 6};
        for (int what = 0; what <= 12; what++) {
            check.due("count(" + what + ") of a full object", full.count(what), due[what]);
        }
    }

    // "2, 3: .. on the way 0, 1; 4, 5: ..; 6, 7: ..; 8, 9: .."
    private void countsOfEachWay() {
        for (int way = 0; way < 2; way++) {
            AccentModems x = new AccentModems();
            x.carry(way, 0, 3);
            Check.say(x, way == 0 ? "a:00" : "b:00");
            x.insult(way, 0, 300);
            check.due("send", x.send(way, 1), 2);
            // 000 is taken for 101
            int[] due = {1, 486256185, 0, 0, 0, 0, 0, 0, 0, 0, 0, 0, 4};
            due[2 + way] = 5;
            due[4 + way] = 3;
            due[6 + way] = 2;
            due[8 + way] = 3;
            for (int what = 0; what <= 12; what++) {
                check.due("count(" + what + ") on the way " + way, x.count(what), due[what]);
            }
        }
    }

    private static int sureOf(int gain, int one, int two, int noise) {
        AccentModems x = new AccentModems();
        x.build(1, 6, 0, gain);
        x.build(1, 6, 1, one);
        x.build(1, 6, 2, two);
        x.build(1, 6, 3, noise);
        return x.sure(1, 6);
    }

    // ".. + noise + 4 is less than (256 shifted right by the bits) * gain of the accent / 64": 16, 32, 64, 128
    private void sureWhereTheNoiseMeetsTheRoom() {
        for (int noise = 0; noise <= 60; noise++) {
            int due = noise + 4 < 16 ? 4 : noise + 4 < 32 ? 3 : noise + 4 < 64 ? 2 : 1;
            check.due("noise " + noise, sureOf(64, 0, 0, noise), due);
        }
    }

    // "size of (gain - gain of the accent) * w", with w = 240, 224, 192 and 128
    private void sureWhereTheGainMeetsTheRoom() {
        int[] w = {0, 128, 192, 224, 240};
        int[] rooms = {0, 128, 64, 32, 16};
        for (int gain = 16; gain <= 96; gain++) {
            for (int noise : new int[] {0, 27, 60}) {
                int due = 0;
                for (int bits = 1; bits <= 4; bits++) {
                    due = Math.abs(gain - 64) * w[bits] / 64 + noise + 4 < rooms[bits] ? bits : due;
                }
                check.due("gain " + gain + ", noise " + noise, sureOf(gain, 0, 0, noise), due);
            }
        }
        // 4 + 11 is 15 and less than 16 for 4 bits; 1 more of the gain is 3.75 more
        check.due("11 of noise", sureOf(64, 0, 0, 11), 4);
        check.due("11 of noise, and the gain 65", sureOf(65, 0, 0, 11), 3);
        check.due("8 of noise, and the gain 65", sureOf(65, 0, 0, 8), 4);
        check.due("8 of noise, and the gain 63", sureOf(63, 0, 0, 8), 4);
        check.due("9 of noise, and the gain 63", sureOf(63, 0, 0, 9), 3);
    }

    // "size of (first echo - that of the accent) * 256 + size of (second echo - that of the accent) * 256"
    private void sureWhereTheEchoesMeetTheRoom() {
        int[] rooms = {0, 128, 64, 32, 16};
        for (int echo = -32; echo <= 32; echo++) {
            for (int other : new int[] {0, 3, -3}) {
                int number = 4 * Math.abs(echo) + 4 * Math.abs(other) + 4;
                int due = 0;
                for (int bits = 1; bits <= 4; bits++) {
                    due = number < rooms[bits] ? bits : due;
                }
                check.due("first echo " + echo + ", second " + other, sureOf(64, echo, other, 0), due);
                check.due("first echo " + other + ", second " + echo, sureOf(64, other, echo, 0), due);
            }
        }
        check.due("the greatest echoes", sureOf(64, 32, 32, 0), 0);
        check.due("the least echoes", sureOf(64, -32, -32, 0), 0);
        check.due("sizes do not make up for each other", sureOf(64, 3, -3, 0), 3);
    }

    // what counts is how far the accent is from the street, each number from its own
    private void sureOfKnownEchoes() {
        for (int by : new int[] {8, -8}) {
            AccentModems x = new AccentModems();
            x.set(0, 1);
            x.learn(1, 1);
            x.insult(1, 2, by);
            x.learn(1, 1);
            // no sign was two before, so that the accent has a first echo alone
            int one = x.accent(1, 2, 1);
            check.due("the size of the first echo", Math.abs(one), 8);
            check.due("second echo", x.accent(1, 2, 2), 0);
            int gain = x.accent(1, 2, 0);
            check.due("how far the gain went", Math.abs(gain - 64), 8);
            x.build(1, 2, 0, gain);
            // 8 * 256 / 64 + 4 is 36, and the room of 2 bits is 56 or 72, that of 3 bits 28 or 36
            check.due("an echo that is not there", x.sure(1, 2), 2);
            x.build(1, 2, 1, one);
            check.due("an echo that is known", x.sure(1, 2), 4);
            x.build(1, 2, 1, -one);
            // 68, and the room of 1 bit is 112 or 144
            check.due("an echo that is known the wrong way", x.sure(1, 2), gain == 72 ? 2 : 1);
            x.build(1, 2, 1, 0);
            x.build(1, 2, 2, one);
            check.due("the second one instead of the first one", x.sure(1, 2), gain == 72 ? 2 : 1);
            x.build(1, 2, 1, one);
            check.due("both", x.sure(1, 2), 2);
        }
    }

    private void sureIsCut() {
        // 1 * 240 / 64 is 3.75 and cut to 3: 3 + 8 + 4 is less than 16; with an echo of 1 it is 7.75
        check.due("3.75", sureOf(65, 0, 0, 8), 4);
        check.due("3.75", sureOf(65, 0, 0, 9), 3);
        check.due("7.75", sureOf(65, 1, 0, 4), 4);
        check.due("7.75", sureOf(65, 1, 0, 5), 3);
        // the room of the gain 61 is 15 for 4 bits: 15.25 that is cut
        AccentModems x = new AccentModems();
        x.set(0, 1);
        x.insult(0, 1, -3);
        x.learn(0, 1);
        check.due("gain", x.accent(0, 1, 0), 61);
        x.build(0, 1, 0, 61);
        x.build(0, 1, 3, 10);
        check.due("14 is less than 15", x.sure(0, 1), 4);
        x.build(0, 1, 3, 11);
        check.due("15 is not", x.sure(0, 1), 3);
    }

    // "0 if not even 1 is so"
    private void notEvenSureOfOneBit() {
        check.due("127 of 128", sureOf(16, 0, 0, 27), 1);
        check.due("128 of 128", sureOf(16, 0, 0, 28), 0);
        check.due("127 of 128, greater", sureOf(96, 0, 0, 59), 1);
        check.due("128 of 128, greater", sureOf(96, 0, 0, 60), 0);
        check.due("all that can be", sureOf(96, 32, -32, 60), 0);
        check.due("echoes of 124", sureOf(64, 15, -15, 3), 1);
        check.due("echoes of 124", sureOf(64, -15, 15, 4), 0);
    }

    // "the most bits, 0 to 4"
    private void sureOfFourBitsAtMost() {
        AccentModems x = new AccentModems();
        for (int way = 0; way < 2; way++) {
            for (int tone = 0; tone < 8; tone++) {
                check.due("sure of a new street", x.sure(way, tone), 4);
            }
        }
        x.set(0, 1);
        x.insult(0, 1, 300);
        x.learn(0, 1);
        x.build(0, 1, 0, 96);
        // 32 * 240 / 64 + 4 is 124, and the rooms are 256, 128, 64, 32: 32 * 192 / 64 + 4 is 100
        check.due("the gain 128 of the accent", x.sure(0, 1), 2);
        x.build(0, 1, 3, 27);
        check.due("127 of 128", x.sure(0, 1), 2);
        x.build(0, 1, 3, 28);
        check.due("128 of 128", x.sure(0, 1), 1);
    }

    private static final List<Supplier<AccentModems>> STATES = List.of(Busy.FRESH.recipe, Busy.BUSY.recipe,
            Busy.FEW.recipe, Busy.FULL.recipe);

    private void ifSentTheLeastAndTheMostBeats() {
        for (Supplier<AccentModems> state : STATES) {
            for (int way = 0; way < 2; way++) {
                for (int beats : new int[] {1, 2, 99, 100}) {
                    AccentModems x = state.get();
                    int wrong = x.ifSent(way, beats, 0);
                    int shies = x.ifSent(way, beats, 1);
                    int left = x.ifSent(way, beats, 2);
                    int before = x.count(10);
                    check.due("wrong bits of " + beats, wrong, x.send(way, beats));
                    check.due("shy tones of " + beats, shies, x.count(10) - before);
                    check.due("bits left of " + beats, left, x.count(2 + way));
                }
            }
        }
    }

    private void ifSentOfANewObject() {
        AccentModems x = new AccentModems();
        for (int what = 0; what <= 2; what++) {
            check.due("ifSent " + what, x.ifSent(0, 1, what), 0);
            check.due("ifSent " + what, x.ifSent(1, 100, what), 0);
        }
        Check.say(x, "a:fff");
        check.due("no tone carries bits", x.ifSent(0, 100, 2), 12);
        check.due("the other way", x.ifSent(1, 100, 2), 0);
        x.carry(0, 0, 1);
        check.due("11 beats", x.ifSent(0, 11, 2), 1);
        check.due("12 beats", x.ifSent(0, 12, 2), 0);
        check.due("13 beats", x.ifSent(0, 13, 2), 0);
    }

    // "bits that would come wrong", "how often tones would become shy": those so far do not count
    private void ifSentTellsOfThisSendingAlone() {
        AccentModems x = new AccentModems();
        x.set(2, 1);
        for (int way = 0; way < 2; way++) {
            x.carry(way, 0, 2);
            x.insult(way, 0, 300);
            check.due("wrong bits", x.ifSent(way, 3, 0), 1);
            check.due("shy tones", x.ifSent(way, 3, 1), 1);
            x.send(way, 1);
            check.due("wrong bits", x.ifSent(way, 3, 0), 0);
            check.due("shy tones", x.ifSent(way, 3, 1), 0);
            check.due("so far", x.count(10), way + 1);
        }
    }

    private void ifLearnedTheLeastAndTheMostBeats() {
        for (Supplier<AccentModems> state : STATES) {
            for (int way = 0; way < 2; way++) {
                for (int beats : new int[] {1, 2, 8, 9, 99, 100}) {
                    AccentModems x = state.get();
                    int bits = x.ifLearned(way, beats);
                    check.due("bits of " + beats, bits, x.learn(way, beats));
                }
            }
        }
        AccentModems x = new AccentModems();
        x.set(0, 64);
        x.set(1, 40);
        for (int tone = 0; tone < 8; tone++) {
            x.insult(0, tone, 63);
        }
        check.due("none", x.ifLearned(0, 8), 0);
        check.due("all", x.ifLearned(0, 9), 32);
        check.due("all of the other way", x.ifLearned(1, 1), 32);
    }

    // "0 if none waits"
    private void beatsForNone() {
        for (int way = 0; way < 2; way++) {
            AccentModems x = new AccentModems();
            check.due("no bits are carried", x.beatsFor(way), 0);
            x.carry(way, 0, 4);
            check.due("bits are carried", x.beatsFor(way), 0);
            Check.say(x, way == 0 ? "b:f" : "a:f");
            check.due("the other way's bits", x.beatsFor(way), 0);
            Check.say(x, way == 0 ? "a:f" : "b:f");
            x.send(way, 1);
            check.due("all are sent", x.beatsFor(way), 0);
        }
    }

    // "NONE if there is none up to 300"
    private void beatsForBitsThatNoToneCarries() {
        for (int way = 0; way < 2; way++) {
            AccentModems x = new AccentModems();
            Check.say(x, way == 0 ? "a:f" : "b:f");
            check.due("no tone carries bits", x.beatsFor(way), -1);
            x.carry(1 - way, 0, 4);
            check.due("the other way's tone", x.beatsFor(way), -1);
            x.carry(way, 7, 1);
            check.due("one bit", x.beatsFor(way), 4);
            x.forget(way);
            check.due("forgotten", x.beatsFor(way), -1);
        }
    }

    // "the least number of beats of sending behind which none would wait"
    private void beatsForTheLastBit() {
        for (int bits = 1; bits <= 4; bits++) {
            for (int tones = 1; tones <= 8; tones++) {
                AccentModems x = new AccentModems();
                for (int tone = 0; tone < tones; tone++) {
                    x.carry(0, tone, bits);
                }
                for (int waiting = 4; waiting <= 40; waiting += 4) {
                    Check.say(x, "a:9");
                    int due = (waiting + bits * tones - 1) / (bits * tones);
                    check.due(waiting + " bits by " + bits * tones, x.beatsFor(0), due);
                }
            }
        }
    }

    // 256 bits of a tone with 1 bit are the most beats that sending can take: 257 to 300 never come
    private void beatsForTheMostThereAre() {
        AccentModems x = Busy.FULL.recipe.get();
        x.carry(0, 2, 0);
        check.due("256 bits by none", x.beatsFor(0), -1);
        x.carry(0, 7, 1);
        check.due("256 bits by 1", x.beatsFor(0), 256);
        x.send(0, 100);
        x.send(0, 100);
        check.due("56 bits by 1", x.beatsFor(0), 56);
        x.send(0, 55);
        check.due("the last one", x.beatsFor(0), 1);
        x.send(0, 1);
        check.due("none", x.beatsFor(0), 0);
    }

    private void beatsForTonesThatBecomeShy() {
        for (int bits = 1; bits <= 4; bits++) {
            AccentModems x = new AccentModems();
            x.set(2, 1);
            x.carry(1, 5, bits);
            Check.say(x, "b:00");
            x.insult(1, 5, 300);
            int[] due = {0, -1, 7, 4, 3};
            check.due("a tone of " + bits + " bits", x.beatsFor(1), due[bits]);
            check.due("it is not shy yet", x.accent(1, 5, 3), bits);
        }
        AccentModems y = new AccentModems();
        y.set(2, 1);
        y.carry(1, 5, 1);
        y.carry(1, 6, 3);
        Check.say(y, "b:0");
        y.insult(1, 5, 300);
        check.due("shy behind the last bit", y.beatsFor(1), 1);
    }

    // "the least number of beats, 1 to 40, by which it would carry most bits"
    private void theLeastOfTheBestLessons() {
        AccentModems x = new AccentModems();
        check.due("all lessons are as good", x.bestLesson(0), 1);
        x.build(0, 0, 0, 96);
        int best = x.bestLesson(0);
        int most = x.ifLearned(0, best);
        for (int beats = 1; beats <= 40; beats++) {
            int bits = x.ifLearned(0, beats);
            check.due("no less by " + beats, beats >= best || bits < most ? 1 : 0, 1);
            check.due("no more by " + beats, bits <= most ? 1 : 0, 1);
        }
        check.due("the other way", x.bestLesson(1), 1);
        check.due("nothing was learned", x.count(0) + x.count(8), 0);
    }

    private void lessonsOfOneAndOfForty() {
        // a lesson whose first error is forgotten by the ninth beat, and is all that there is
        AccentModems x = new AccentModems();
        x.set(0, 64);
        x.insult(1, 3, 10);
        check.due("the ninth beat", x.bestLesson(1), 9);
        x.insult(1, 3, -3);
        check.due("an error of 7 leaves 4 bits", x.bestLesson(1), 1);
        // no lesson gives a bit
        AccentModems y = new AccentModems();
        y.set(0, 64);
        y.set(1, 40);
        for (int tone = 0; tone < 8; tone++) {
            y.build(0, tone, 3, 60);
            y.build(0, tone, 0, 16);
        }
        check.due("no bits by 1", y.ifLearned(0, 1), 0);
        check.due("none gives a bit", y.bestLesson(0), 1);
        AccentModems slow = slope(52, 18, 6);
        check.due("the last one is the best", slow.bestLesson(0), 40);
        check.due("39 beats are worse", slow.ifLearned(0, 39) < slow.ifLearned(0, 40) ? 1 : 0, 1);
        AccentModems quick = slope(3, 17, 8);
        int best = quick.bestLesson(0);
        check.due("41 beats would be better", quick.ifLearned(0, 41) > quick.ifLearned(0, best) ? 1 : 0, 1);
        check.due("but 40 are the most", best, 39);
    }

    private void lessonsBeforeDoNotCount() {
        for (int beats = 1; beats <= 8; beats++) {
            AccentModems x = new AccentModems();
            x.set(0, 64);
            x.insult(0, 2, 60);
            x.insult(1, 2, 60);
            x.learn(0, beats);
            check.due("the worst of the lesson before", x.accent(0, 2, 4), 60);
            check.due("ifLearned", x.ifLearned(0, 1), 32);
            check.due("bestLesson", x.bestLesson(0), 1);
            check.due("ifLearned back", x.ifLearned(1, 8), 28 + 1);
            check.due("bestLesson back", x.bestLesson(1), 9);
            check.due("ifLearned again", x.ifLearned(0, 1), 32);
            check.due("bestLesson again", x.bestLesson(0), 1);
        }
    }

    private static AccentModems slope(int patience, int gain, int margin) {
        AccentModems x = new AccentModems();
        x.set(0, patience);
        x.set(1, margin);
        for (int tone = 0; tone < 8; tone++) {
            x.build(0, tone, 0, gain + 7 * tone);
        }
        return x;
    }

    /** A tone of so many bits whose next sign is this one. */
    private static AccentModems next(int bits, int sign) {
        AccentModems x = new AccentModems();
        x.carry(0, 4, bits);
        Check.say(x, "a:" + Integer.toHexString(sign << (4 - bits)));
        return x;
    }

    // "NONE if .. the tone carries no bits"
    private void hurtsWithoutBits() {
        AccentModems x = new AccentModems();
        Check.say(x, "a:f");
        for (int by : new int[] {0, 300, 300, 300, 100}) {
            x.insult(0, 4, by);
            check.due("hurts", x.hurts(0, 4), -1);
        }
        x.carry(0, 3, 4);
        check.due("another tone carries bits", x.hurts(0, 4), -1);
        x.carry(0, 4, 1);
        check.due("it does", x.hurts(0, 4), 0);
        x.carry(0, 4, 0);
        check.due("it does not", x.hurts(0, 4), -1);
    }

    // "0 if it would be wrong without one"
    private void hurtsWithoutAnInsult() {
        for (int bits = 1; bits <= 4; bits++) {
            int half = 256 >> bits;
            AccentModems x = next(bits, 0);
            x.insult(0, 4, half);
            check.due("in the middle", x.hurts(0, 4), 1);
            x.insult(0, 4, 1);
            check.due("above it", x.hurts(0, 4), 0);
            check.due("it would be wrong", x.ifSent(0, 1, 0) > 0 ? 1 : 0, 1);
            AccentModems y = next(bits, (1 << bits) - 1);
            y.insult(0, 4, 1 - half);
            check.due("above the middle", y.hurts(0, 4), 1);
            y.insult(0, 4, -1);
            check.due("in it", y.hurts(0, 4), 0);
        }
    }

    // "the least size, 1 to 300"
    private void hurtsByOne() {
        AccentModems x = next(4, 5);
        x.insult(0, 4, 16);
        check.due("1 up", x.hurts(0, 4), 1);
        x.insult(0, 4, -31);
        check.due("1 down", x.hurts(0, 4), 1);
        x.insult(0, 4, 1);
        check.due("2 down", x.hurts(0, 4), 2);
        x.insult(0, 4, 15);
        check.due("16 up, or 17 down", x.hurts(0, 4), 16);
    }

    // "NONE if there is none" up to 300
    private void hurtsByThreeHundred() {
        int[][] up = {{-170, 299}, {-171, 300}, {-172, -1}, {-300, -1}};
        for (int[] row : up) {
            AccentModems x = next(1, 0);
            x.insult(0, 4, row[0]);
            check.due("-128 and " + row[0], x.hurts(0, 4), row[1]);
        }
        int[][] down = {{171, 299}, {172, 300}, {173, -1}, {300, -1}};
        for (int[] row : down) {
            AccentModems x = next(1, 1);
            x.insult(0, 4, row[0]);
            check.due("128 and " + row[0], x.hurts(0, 4), row[1]);
        }
        AccentModems x = next(1, 0);
        x.insult(0, 4, -171);
        x.insult(0, 4, 300);
        check.due("300 makes it wrong", x.ifSent(0, 1, 0), 1);
        x.undo();
        x.insult(0, 4, 299);
        check.due("299 does not", x.ifSent(0, 1, 0), 0);
    }

    // "(as it is, or below 0)"
    private void hurtsBelowZero() {
        for (int bits = 2; bits <= 4; bits++) {
            int half = 256 >> bits;
            for (int sign = 1; sign < (1 << bits) - 1; sign++) {
                check.due("down to the middle", next(bits, sign).hurts(0, 4), half);
                AccentModems x = next(bits, sign);
                x.insult(0, 4, 1);
                check.due("up beyond the middle", x.hurts(0, 4), half);
                x.insult(0, 4, 1);
                check.due("nearer to the upper one", x.hurts(0, 4), half - 1);
                x.insult(0, 4, -4);
                check.due("nearer to the lower one", x.hurts(0, 4), half - 2);
            }
            check.due("none below the lowest", next(bits, 0).hurts(0, 4), half + 1);
            check.due("none above the highest", next(bits, (1 << bits) - 1).hurts(0, 4), half);
        }
    }

    // "besides what waits (whatever bound that has)"
    private void hurtsBeyondTheBoundOfWhatWaits() {
        for (int sign = -1; sign <= 1; sign += 2) {
            AccentModems x = next(1, sign < 0 ? 0 : 1);
            AccentModems y = next(1, sign < 0 ? 1 : 0);
            for (int by : new int[] {300, 300, 300, 100}) {
                x.insult(0, 4, sign * by);
                y.insult(0, 4, sign * by);
            }
            check.due("none brings it back", x.hurts(0, 4), -1);
            check.due("it is wrong already", y.hurts(0, 4), 0);
            check.due("what waits stays", x.street(0, 4, 4), sign * 1000);
        }
    }

    private void hurtsWhereNoBitIsLeft() {
        AccentModems x = new AccentModems();
        x.carry(1, 0, 4);
        x.carry(1, 1, 4);
        check.due("filled in", x.hurts(1, 0), 17);
        Check.say(x, "b:f");
        check.due("the tone 0 takes all", x.hurts(1, 0), 16);
        check.due("none is left for the tone 1", x.hurts(1, 1), 17);
        x.carry(1, 0, 3);
        check.due("one is left: 1000", x.hurts(1, 1), 16);
        check.due("the bits still wait", x.count(3), 4);
    }

    private interface Asking {
        void ask(AccentModems x, int way);
    }

    private void changesNothing(String what, Asking asking) {
        for (Busy when : Busy.values()) {
            List<Long> before = Told.by(when.recipe);
            for (int way = 0; way < 2; way++) {
                int w = way;
                check.dueSame("all behind asking for " + what + " when " + when, before, Told.by(() -> {
                    AccentModems x = when.recipe.get();
                    asking.ask(x, w);
                    return x;
                }));
            }
        }
    }

    private void askingWhatThereIsChangesNothing() {
        changesNothing("the street", (x, way) -> {
            for (int i = 0; i < 56; i++) {
                x.street(way, i % 8, i / 8);
            }
        });
        changesNothing("the accent", (x, way) -> {
            for (int i = 0; i < 88; i++) {
                x.accent(way, i % 8, i / 8);
            }
        });
        changesNothing("numbers", (x, way) -> {
            for (int what = 0; what <= 12; what++) {
                x.count(what);
            }
            for (int setting = 0; setting <= 2; setting++) {
                x.setting(setting);
            }
            x.had(way);
            x.rightShare(way);
            x.firstError();
        });
    }

    private void askingForWaitingBitsChangesNothing() {
        changesNothing("the first bits", (x, way) -> {
            int size = x.count(2 + way);
            for (int place = 0; place < Math.min(60, size); place++) {
                x.waits(way, place);
            }
        });
        changesNothing("the last bits", (x, way) -> {
            int size = x.count(2 + way);
            for (int place = size - 1; place >= Math.max(0, size - 60); place--) {
                x.waits(way, place);
            }
        });
    }

    // "what would be; nothing is changed"
    private void askingWhatWouldBeChangesNothing() {
        changesNothing("sure and hurts", (x, way) -> {
            for (int tone = 0; tone < 8; tone++) {
                x.sure(way, tone);
                x.hurts(way, tone);
            }
        });
        changesNothing("ifSent", (x, way) -> {
            for (int beats = 1; beats <= 100; beats += 9) {
                for (int what = 0; what <= 2; what++) {
                    x.ifSent(way, beats, what);
                }
            }
        });
        changesNothing("ifLearned", (x, way) -> {
            for (int beats = 1; beats <= 100; beats += 9) {
                x.ifLearned(way, beats);
            }
        });
        changesNothing("beatsFor", (x, way) -> x.beatsFor(way));
        changesNothing("bestLesson", (x, way) -> x.bestLesson(way));
        changesNothing("digest", (x, way) -> x.digest());
    }

    private void theDigestOfANewObject() {
        check.due("digest", new AccentModems().digest(), Digest.of(AccentModems::new, ""));
        check.due("digest of another one", new AccentModems().digest(), new AccentModems().digest());
    }

    // "in long arithmetic with overflow": as a number without an end, cut to 64 bits
    private void theDigestGoesOverAndAround() {
        java.math.BigInteger hash = java.math.BigInteger.valueOf(2417);
        for (long v : Digest.valuesOf(Busy.BUSY.recipe, "a:7;b")) {
            hash = hash.multiply(java.math.BigInteger.valueOf(31)).add(java.math.BigInteger.valueOf(v));
        }
        check.due("it is longer than a long", hash.bitLength() > 1000 ? 1 : 0, 1);
        check.due("digest", Busy.BUSY.recipe.get().digest(), hash.longValue());
    }

    private void theDigestOfEachState() {
        String[] buffers = {"", "a:7;b", "a:7;b", "a:" + "5".repeat(58), ""};
        Busy[] all = Busy.values();
        for (int i = 0; i < all.length; i++) {
            check.due("digest of " + all[i], all[i].recipe.get().digest(), Digest.of(all[i].recipe, buffers[i]));
        }
        for (int length = 0; length <= 60; length++) {
            String text = "~!".repeat(30).substring(0, length);
            Supplier<AccentModems> state = () -> {
                AccentModems x = new AccentModems();
                Check.append(x, text);
                return x;
            };
            check.due("digest with " + length + " characters", state.get().digest(), Digest.of(state, text));
        }
        // a share of each kind: of none, of all wrong, of some
        for (int right = 0; right <= 9; right++) {
            int beats = right;
            Supplier<AccentModems> state = () -> {
                AccentModems x = new AccentModems();
                x.carry(0, 0, 1);
                x.insult(0, 0, 300);
                x.send(0, 1);
                if (beats > 0) {
                    x.send(0, beats);
                }
                return x;
            };
            check.dueDouble("rightShare", state.get().rightShare(0), beats / (beats + 1.0));
            check.due("digest with a share", state.get().digest(), Digest.of(state, ""));
        }
    }
}
