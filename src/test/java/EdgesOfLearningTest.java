/** The boundary cases of the document's "Accents" and "Learning", sentence by sentence, and of promises 6 and 8. */
public final class EdgesOfLearningTest {
    // the first signs of learning of a new object: draws of 16838, 10113, 31051, 23010, 16212, 2749, 9084, 32225
    private static final int[] FIRST = {-1, 1, 1, -1, -1, 1, -1, 1};

    private final Check check = new Check();

    public static void main(String[] args) {
        EdgesOfLearningTest test = new EdgesOfLearningTest();
        test.theSignsOfLearning();
        test.gainsAreHeldWithinBounds();
        test.echoesAreHeldWithinBounds();
        test.stepsAreCutTowardsZero();
        test.theLeastAndTheGreatestPatience();
        test.whatIsExpectedIsCutTowardsZero();
        test.theWorstOfLessThanEightBeats();
        test.theWorstOfMoreThanEightBeats();
        test.theWorstIsOfThisLesson();
        test.theWorstIsASize();
        test.theWorstIsTheGreatest();
        test.noLearningYet();
        test.bitsWhereTheWorstMeetsTheRoom();
        test.theRoomIsCut();
        test.theLeastAndTheGreatestMargin();
        test.fourBitsAtMost();
        test.notEvenOneBit();
        test.allWrongSignsOfTheWayAreForgotten();
        test.wrongSignsAreForgottenWithoutBits();
        test.learningMakesNoToneShy();
        test.learningSendsNoBits();
        test.takenAmplitudesBecomeTheRealOnes();
        test.forgettingANewAccent();
        test.forgettingALearnedAccent();
        test.forgettingKeepsWhatIsCounted();
        test.check.end();
    }

    // "A is 128 if draw(2) is 1, otherwise -128"
    private void theSignsOfLearning() {
        for (int way = 0; way < 2; way++) {
            AccentModems x = new AccentModems();
            x.learn(way, 1);
            for (int tone = 0; tone < 8; tone++) {
                check.due("the sign of the tone " + tone, x.street(way, tone, 5), 128 * FIRST[tone]);
                check.due("it is known", x.accent(way, tone, 9), 128 * FIRST[tone]);
                check.due("none before it", x.accent(way, tone, 10), 0);
                check.due("no sign of the other way", x.street(1 - way, tone, 5), 0);
            }
        }
    }

    // "a gain, 8 to 128": "each is held within its bounds"
    private void gainsAreHeldWithinBounds() {
        // with the patience 1 the gain becomes greater by error * A / 128
        int[] wanted = {126, 127, 128, 129, 130, 200, 360, 10, 9, 8, 7, 6, 0, -1, -200};
        for (int tone = 0; tone < 8; tone++) {
            for (int gain : wanted) {
                AccentModems x = new AccentModems();
                x.set(0, 1);
                x.insult(0, tone, (gain - 64) * FIRST[tone]);
                x.learn(0, 1);
                check.due("gain of " + gain, x.accent(0, tone, 0), Math.max(8, Math.min(128, gain)));
                check.due("gain of another tone", x.accent(0, (tone + 1) % 8, 0), 64);
            }
        }
    }

    // "two echoes, -48 to 48": "each is held within its bounds"
    private void echoesAreHeldWithinBounds() {
        int[] wanted = {46, 47, 48, 49, 50, 100, 300, -46, -47, -48, -49, -50, -100, -300};
        for (int tone = 0; tone < 8; tone++) {
            for (int echo : wanted) {
                AccentModems x = new AccentModems();
                x.set(0, 1);
                x.learn(0, 2);
                int one = x.street(0, tone, 5) / 128;
                int two = x.street(0, tone, 6) / 128;
                x.insult(0, tone, echo);
                x.learn(0, 1);
                int held = Math.max(-48, Math.min(48, echo));
                check.due("first echo of " + echo, x.accent(0, tone, 1), held * one);
                check.due("second echo of " + echo, x.accent(0, tone, 2), held * two);
                check.due("worst", x.accent(0, tone, 4), Math.abs(echo));
            }
        }
    }

    // "greater by error * A / (128 * setting 0)", cut towards 0
    private void stepsAreCutTowardsZero() {
        int[][] rows = {
            {0, 0}, {1, 0}, {7, 0}, {8, 1}, {15, 1}, {16, 2}, {-1, 0}, {-7, 0}, {-8, -1}, {-15, -1}, {-16, -2}};
        for (int[] row : rows) {
            for (int tone = 0; tone < 8; tone++) {
                AccentModems x = new AccentModems();
                x.learn(0, 2);
                int one = x.street(0, tone, 5) / 128;
                int two = x.street(0, tone, 6) / 128;
                x.insult(0, tone, row[0]);
                x.learn(0, 1);
                check.due("gain by " + row[0], x.accent(0, tone, 0), 64 + row[1] * x.street(0, tone, 5) / 128);
                check.due("first echo by " + row[0], x.accent(0, tone, 1), row[1] * one);
                check.due("second echo by " + row[0], x.accent(0, tone, 2), row[1] * two);
            }
        }
    }

    // "patience, 1 to 64"
    private void theLeastAndTheGreatestPatience() {
        int[][] rows = {{1, 1, 1}, {1, 63, 63}, {64, 63, 0}, {64, 64, 1}, {64, 127, 1}, {64, 128, 2}, {64, -64, -1},
            {64, -63, 0}, {1, -1, -1}};
        for (int[] row : rows) {
            AccentModems x = new AccentModems();
            x.set(0, row[0]);
            x.insult(0, 1, row[1]);
            x.learn(0, 1);
            check.due("gain by " + row[1] + " with " + row[0], x.accent(0, 1, 0), 64 + row[2]);
        }
    }

    private void whatIsExpectedIsCutTowardsZero() {
        AccentModems x = new AccentModems();
        x.set(0, 1);
        x.learn(0, 1);
        x.insult(0, 0, 1);
        x.learn(0, 1);
        int echo = x.accent(0, 0, 1);
        int gain = x.accent(0, 0, 0);
        check.due("the size of the first echo", Math.abs(echo), 1);
        x.carry(0, 0, 4);
        x.send(0, 1);
        check.due("the sign before", x.street(0, 0, 5), -240);
        x.learn(0, 1);
        int amplitude = x.street(0, 0, 5);
        int two = x.street(0, 0, 6);
        check.due("the sign before it", two, -240);
        // nothing in the street but the gain 64; the second echo of the accent is 0, since no sign was two before
        int expected = (gain * amplitude + echo * -240) / 64;
        check.due("the error", x.accent(0, 0, 4), Math.abs(amplitude - expected));
        check.due("it was cut", (gain * amplitude + echo * -240) % 64 != 0 ? 1 : 0, 1);
    }

    /** The error of the first beat is so much on a tone, the others are 0, and the accent stays. */
    private static AccentModems disturbed(int tone, int by) {
        AccentModems x = new AccentModems();
        x.set(0, 64);
        x.insult(0, tone, by);
        return x;
    }

    // "the greatest size of the errors in the last 8 beats of the learning (of all, if these are fewer)"
    private void theWorstOfLessThanEightBeats() {
        for (int beats = 1; beats <= 8; beats++) {
            for (int tone = 0; tone < 8; tone++) {
                AccentModems x = disturbed(tone, 40);
                x.learn(0, beats);
                check.due("the worst of " + beats + " beats", x.accent(0, tone, 4), 40);
                check.due("the worst of another tone", x.accent(0, (tone + 3) % 8, 4), 0);
            }
        }
    }

    private void theWorstOfMoreThanEightBeats() {
        for (int beats : new int[] {9, 10, 15, 16, 17, 24, 25, 99, 100}) {
            AccentModems x = disturbed(6, 40);
            x.learn(0, beats);
            check.due("the worst of " + beats + " beats", x.accent(0, 6, 4), 0);
        }
        // the errors are the noise alone, which is small enough to leave the accent as it is
        for (int beats = 1; beats <= 60; beats++) {
            AccentModems x = new AccentModems();
            x.set(0, 64);
            x.build(0, 2, 3, 50);
            x.learn(0, beats);
            long seed = 1;
            int worst = 0;
            for (int beat = 0; beat < beats; beat++) {
                for (int draw = 0; draw < 16; draw++) {
                    seed = (1103515245L * seed + 12345L) % 2147483648L;
                    if (draw == 5 && beat >= beats - 8) {
                        worst = Math.max(worst, Math.abs((int) (seed / 65536 % 101) - 50));
                    }
                }
            }
            check.due("gain", x.accent(0, 2, 0), 64);
            check.due("the worst noise of " + beats + " beats", x.accent(0, 2, 4), worst);
        }
    }

    private void theWorstIsOfThisLesson() {
        for (int beats = 1; beats <= 7; beats++) {
            AccentModems x = disturbed(5, 40);
            x.learn(0, 1);
            x.learn(0, beats);
            check.due("an error of the lesson before", x.accent(0, 5, 4), 0);
        }
        AccentModems x = disturbed(5, 40);
        x.learn(1, 1);
        check.due("a lesson of the other way", x.accent(0, 5, 4), -1);
        x.ifLearned(0, 1);
        x.bestLesson(0);
        check.due("a lesson that was not held", x.accent(0, 5, 4), -1);
        x.learn(1, 1);
        check.due("nor does it count for another one", x.accent(1, 5, 4), 0);
    }

    private void theWorstIsASize() {
        for (int by : new int[] {-1, 1, -40, 40, -63, 63}) {
            AccentModems x = disturbed(3, by);
            x.learn(0, 8);
            check.due("an error of " + by, x.accent(0, 3, 4), Math.abs(by));
        }
    }

    // the first error is the greatest one, until the ninth beat
    private void theWorstIsTheGreatest() {
        AccentModems x = new AccentModems();
        x.build(0, 0, 0, 80);
        int[] worst = new int[10];
        for (int beats = 1; beats <= 9; beats++) {
            x.learn(0, beats);
            worst[beats] = x.accent(0, 0, 4);
            x.undo();
        }
        for (int beats = 1; beats <= 8; beats++) {
            check.due("the worst of " + beats + " beats", worst[beats], 32);
        }
        check.due("the worst of 9 beats is less", worst[9] < 32 ? 1 : 0, 1);
    }

    // "the worst of the latest learning, NONE if there was none, or the accent was forgotten since"
    private void noLearningYet() {
        AccentModems x = new AccentModems();
        x.carry(0, 0, 3);
        x.send(0, 5);
        for (int tone = 0; tone < 8; tone++) {
            check.due("none yet", x.accent(0, tone, 4), -1);
        }
        x.learn(0, 1);
        for (int tone = 0; tone < 8; tone++) {
            check.due("the worst of a lesson without errors", x.accent(0, tone, 4), 0);
            check.due("none of the other way", x.accent(1, tone, 4), -1);
        }
        x.send(0, 1);
        x.carry(0, 0, 0);
        check.due("it stays", x.accent(0, 0, 4), 0);
        x.forget(1);
        check.due("it stays if the other way is forgotten", x.accent(0, 0, 4), 0);
        x.forget(0);
        for (int tone = 0; tone < 8; tone++) {
            check.due("forgotten", x.accent(0, tone, 4), -1);
        }
        x.undo();
        check.due("remembered", x.accent(0, 0, 4), 0);
        x.forget(0);
        x.learn(0, 1);
        check.due("learned again", x.accent(0, 0, 4), 0);
    }

    // "worst * setting 1 / 4 is less than (256 shifted right by the bits) * gain of the accent / 64"
    private void bitsWhereTheWorstMeetsTheRoom() {
        // margin, worst, bits: with the gain 64 the room of 4, 3, 2 and 1 bits is 16, 32, 64 and 128
        int[][] rows = {
            {8, 0, 4}, {8, 7, 4}, {8, 8, 3}, {8, 15, 3}, {8, 16, 2}, {8, 31, 2}, {8, 32, 1}, {8, 63, 1},
            {4, 15, 4}, {4, 16, 3}, {4, 31, 3}, {4, 32, 2}, {4, 63, 2},
            {16, 3, 4}, {16, 4, 3}, {16, 7, 3}, {16, 8, 2}, {16, 15, 2}, {16, 16, 1}, {16, 31, 1}, {16, 32, 0},
            {9, 7, 4}, {9, 8, 3}, {9, 14, 3}, {9, 15, 2}, {9, 28, 2}, {9, 29, 1}, {9, 56, 1}, {9, 57, 0}};
        for (int[] row : rows) {
            for (int by : new int[] {row[1], -row[1]}) {
                AccentModems x = disturbed(1, by);
                x.set(1, row[0]);
                int bits = x.learn(0, 1);
                check.due("gain", x.accent(0, 1, 0), 64);
                check.due("bits with " + row[0] + " and " + by, x.accent(0, 1, 3), row[2]);
                check.due("bits of all tones", bits, 28 + row[2]);
            }
        }
    }

    // 16 * 61 / 64 is 15.25, and 15 * 4 / 4 is not less than 15
    private void theRoomIsCut() {
        // the way to the gain 61 in one beat: -3 by an error of the patience 1, which is 3 then
        int[][] rows = {{4, 61, 4}, {19, 61, 4}, {20, 61, 3}, {39, 61, 3}, {40, 61, 2}};
        for (int[] row : rows) {
            AccentModems x = new AccentModems();
            x.set(0, 1);
            x.set(1, row[0]);
            x.insult(0, 1, row[1] - 64);
            x.learn(0, 1);
            check.due("gain", x.accent(0, 1, 0), row[1]);
            check.due("worst", x.accent(0, 1, 4), 3);
            // 3 * 19 / 4 is 14, 3 * 20 / 4 is 15; 32 * 61 / 64 is 30.5, 3 * 39 / 4 is 29, 3 * 40 / 4 is 30
            check.due("bits with the margin " + row[0], x.accent(0, 1, 3), row[2]);
        }
        // a greater gain gives more room: 16 * 67 / 64 is 16.75, and 3 * 21 / 4 is 15, 3 * 22 / 4 is 16
        int[][] greater = {{21, 4}, {22, 3}, {40, 3}};
        for (int[] row : greater) {
            AccentModems x = new AccentModems();
            x.set(0, 1);
            x.set(1, row[0]);
            x.insult(0, 1, 3);
            x.learn(0, 1);
            check.due("gain", x.accent(0, 1, 0), 67);
            check.due("bits with the margin " + row[0], x.accent(0, 1, 3), row[1]);
        }
    }

    // "the margin in quarters, 4 to 40"
    private void theLeastAndTheGreatestMargin() {
        int[][] rows = {{4, 1, 4}, {4, 15, 4}, {4, 16, 3}, {40, 1, 4}, {40, 2, 3}, {40, 3, 3}, {40, 4, 2}, {40, 6, 2},
            {40, 7, 1}, {40, 12, 1}, {40, 13, 0}};
        for (int[] row : rows) {
            AccentModems x = disturbed(7, row[1]);
            x.set(1, row[0]);
            x.learn(0, 1);
            check.due("bits with " + row[0] + " and " + row[1], x.accent(0, 7, 3), row[2]);
        }
    }

    // "as many bits as possible, 4 at most"
    private void fourBitsAtMost() {
        AccentModems x = new AccentModems();
        x.set(1, 4);
        check.due("a street without noise", x.learn(0, 100), 32);
        check.due("count(8)", x.count(8), 32);
        check.due("count(9)", x.count(9), 0);
        x.build(0, 0, 0, 96);
        x.set(0, 1);
        x.learn(0, 1);
        check.due("gain", x.accent(0, 0, 0), 128);
        for (int tone = 1; tone < 8; tone++) {
            check.due("bits", x.accent(0, tone, 3), 4);
        }
        // a small gain that is known gives 4 bits, too
        AccentModems y = new AccentModems();
        y.set(0, 2);
        y.build(0, 3, 0, 16);
        y.learn(0, 1);
        check.due("gain", y.accent(0, 3, 0), 16);
        check.due("bits of a new gain", y.accent(0, 3, 3), 0);
        y.learn(0, 1);
        check.due("bits of the gain 16", y.accent(0, 3, 3), 4);
    }

    // "none, if not even 1 is possible"
    private void notEvenOneBit() {
        AccentModems x = new AccentModems();
        x.set(0, 64);
        x.set(1, 40);
        for (int tone = 0; tone < 8; tone++) {
            x.carry(0, tone, 1 + tone % 4);
            x.insult(0, tone, 13);
        }
        check.due("learn", x.learn(0, 1), 0);
        for (int tone = 0; tone < 8; tone++) {
            check.due("bits", x.accent(0, tone, 3), 0);
        }
        check.due("learn without insults", x.learn(0, 1), 32);
    }

    // "All wrong signs of the way, as they count for becoming shy, are forgotten then"
    private void allWrongSignsOfTheWayAreForgotten() {
        AccentModems x = new AccentModems();
        for (int tone = 0; tone < 8; tone++) {
            for (int way = 0; way < 2; way++) {
                x.carry(way, tone, 1);
                x.insult(way, tone, 300);
            }
        }
        check.due("send", x.send(0, 1), 8);
        check.due("send", x.send(1, 1), 8);
        x.carry(0, 2, 0);
        for (int tone = 0; tone < 8; tone++) {
            check.due("wrong signs", x.accent(0, tone, 5), 1);
        }
        x.ifLearned(0, 5);
        check.due("wrong signs behind what would be", x.accent(0, 0, 5), 1);
        x.learn(0, 1);
        for (int tone = 0; tone < 8; tone++) {
            check.due("forgotten", x.accent(0, tone, 5), 0);
            check.due("those so far stay", x.accent(0, tone, 8), 1);
            check.due("those of the other way stay", x.accent(1, tone, 5), 1);
        }
    }

    private void wrongSignsAreForgottenWithoutBits() {
        AccentModems x = new AccentModems();
        x.carry(0, 1, 2);
        x.insult(0, 1, 300);
        x.send(0, 1);
        check.due("wrong signs", x.accent(0, 1, 5), 1);
        x.set(1, 40);
        x.insult(0, 1, 300);
        x.learn(0, 1);
        check.due("no bits", x.accent(0, 1, 3), 0);
        check.due("forgotten", x.accent(0, 1, 5), 0);
    }

    // "Behind a beat of sending", not of learning; how often tones became shy stays
    private void learningMakesNoToneShy() {
        AccentModems x = new AccentModems();
        x.carry(0, 1, 2);
        x.carry(1, 1, 2);
        for (int i = 0; i < 2; i++) {
            x.insult(0, 1, 300);
            x.send(0, 1);
        }
        x.set(2, 1);
        x.learn(1, 3);
        check.due("the other way's learning", x.accent(0, 1, 6), 0);
        check.due("bits", x.accent(0, 1, 3), 2);
        x.learn(0, 3);
        check.due("its own learning", x.accent(0, 1, 6), 0);
        check.due("how often all", x.count(10), 0);
        check.due("bits", x.accent(0, 1, 3), 4);
        x.insult(0, 1, 300);
        x.send(0, 1);
        check.due("shy", x.accent(0, 1, 3), 3);
        x.learn(0, 1);
        check.due("as often as before", x.accent(0, 1, 6), 1);
        check.due("how often all", x.count(10), 1);
        x.forget(0);
        check.due("as often as before", x.count(10), 1);
    }

    // "signs with bits so far", "bits that came": learning takes none of those that wait
    private void learningSendsNoBits() {
        AccentModems x = new AccentModems();
        for (int tone = 0; tone < 8; tone++) {
            x.carry(0, tone, 4);
        }
        Check.say(x, "a:5f");
        x.learn(0, 100);
        for (int tone = 0; tone < 8; tone++) {
            check.due("signs with bits", x.accent(0, tone, 7), 0);
            check.due("wrong signs", x.accent(0, tone, 8), 0);
        }
        check.due("bits that wait", x.count(2), 8);
        check.due("bits that came", x.count(4), 0);
        check.due("wrong bits", x.count(6), 0);
        check.due("had", x.had(0), 0);
        check.due("beats", x.count(0), 100);
        check.dueDouble("rightShare", x.rightShare(0), 1.0);
    }

    // "behind each beat of it D1 and D2 are as A1 and A2"
    private void takenAmplitudesBecomeTheRealOnes() {
        AccentModems x = new AccentModems();
        x.carry(0, 4, 1);
        x.insult(0, 4, 300);
        x.send(0, 1);
        check.due("sent", x.street(0, 4, 5), -128);
        check.due("taken for", x.accent(0, 4, 9), 128);
        x.learn(0, 1);
        for (int tone = 0; tone < 8; tone++) {
            check.due("D1", x.accent(0, tone, 9), x.street(0, tone, 5));
            check.due("D2", x.accent(0, tone, 10), x.street(0, tone, 6));
        }
        check.due("A2", x.street(0, 4, 6), -128);
        x.learn(0, 2);
        for (int tone = 0; tone < 8; tone++) {
            check.due("D1", x.accent(0, tone, 9), x.street(0, tone, 5));
            check.due("D2", x.accent(0, tone, 10), x.street(0, tone, 6));
        }
    }

    // "Returns how many bits all tones of the way carried"
    private void forgettingANewAccent() {
        AccentModems x = new AccentModems();
        long before = x.digest();
        check.due("forget a new accent", x.forget(0), 0);
        check.due("forget a new accent", x.forget(1), 0);
        check.due("both are undoable", x.undo(), 1);
        check.due("both are undoable", x.undo(), 0);
        check.due("nothing else changed", x.digest(), before);
        x.learn(1, 1);
        check.due("forget the other one", x.forget(0), 0);
        check.due("forget all 32 bits", x.forget(1), 32);
        check.due("forget again", x.forget(1), 0);
    }

    // "gains 64, echoes 0, no bits, no wrong signs as they count for becoming shy, for all tones of a way"
    private void forgettingALearnedAccent() {
        AccentModems x = new AccentModems();
        x.set(0, 1);
        for (int way = 0; way < 2; way++) {
            x.learn(way, 2);
            for (int tone = 0; tone < 8; tone++) {
                x.insult(way, tone, 30);
            }
            x.learn(way, 1);
            for (int tone = 0; tone < 8; tone++) {
                check.due("gain", Math.abs(x.accent(way, tone, 0) - 64), 30);
                check.due("first echo", Math.abs(x.accent(way, tone, 1)), 30);
                check.due("second echo", Math.abs(x.accent(way, tone, 2)), 30);
                check.due("worst", x.accent(way, tone, 4), 30);
            }
        }
        x.forget(1);
        for (int tone = 0; tone < 8; tone++) {
            int[] due = {64, 0, 0, 0, -1, 0};
            for (int what = 0; what <= 5; what++) {
                check.due("accent(1, " + tone + ", " + what + ")", x.accent(1, tone, what), due[what]);
            }
            check.due("the other way's gain", Math.abs(x.accent(0, tone, 0) - 64), 30);
            check.due("the other way's worst", x.accent(0, tone, 4), 30);
        }
    }

    // "(the last signs, and what is counted so far, stay)"
    private void forgettingKeepsWhatIsCounted() {
        AccentModems x = new AccentModems();
        x.set(2, 1);
        x.carry(1, 6, 2);
        x.insult(1, 6, 300);
        Check.say(x, "b:05");
        x.send(1, 1);
        x.insult(1, 6, 9);
        int[] street = {64, 0, 0, 0, 9, -192, 0};
        int[] accent = {64, 0, 0, 0, -1, 0, 1, 1, 1, 64, 0};
        check.due("forget", x.forget(1), 1);
        for (int what = 0; what <= 6; what++) {
            check.due("street(1, 6, " + what + ")", x.street(1, 6, what), street[what]);
        }
        for (int what = 0; what <= 10; what++) {
            check.due("accent(1, 6, " + what + ")", x.accent(1, 6, what), accent[what]);
        }
        int[] counts = {1, 486256185, 0, 6, 0, 2, 0, 1, 0, 0, 1, 1, 6};
        for (int what = 0; what <= 12; what++) {
            check.due("count(" + what + ")", x.count(what), counts[what]);
        }
        check.due("had", x.had(1), 2);
        check.dueDouble("rightShare", x.rightShare(1), 0.5);
    }
}
