/** The boundary cases of the document's "The street" and "Settings", sentence by sentence, and of promises 1 to 5. */
public final class EdgesOfStreetTest {
    private final Check check = new Check();

    public static void main(String[] args) {
        EdgesOfStreetTest test = new EdgesOfStreetTest();
        test.aNewStreet();
        test.aNewAccent();
        test.newSettings();
        test.anEmptyBufferAndEmptyRows();
        test.noSignsBefore();
        test.noSignsBeforeInLearning();
        test.signsBeforeAreOfThisToneAndWay();
        test.noInsultWaits();
        test.theInsultIsGoneThen();
        test.theInsultIsOfTheNextSignAlone();
        test.countOfInsults();
        test.insultsOfAThousandArrive();
        test.drawsOnceForEachTone();
        test.theSeedWrapsAround();
        test.theNoiseOfEachTone();
        test.noNoise();
        test.leastAndGreatestGainAndEchoes();
        test.whatComesIsCutTowardsZero();
        test.carryLetsWrongSignsStay();
        test.theSameNumberAgain();
        test.check.end();
    }

    // "at first the gain 64, and the others 0"
    private void aNewStreet() {
        AccentModems x = new AccentModems();
        int[] due = {64, 0, 0, 0, 0, 0, 0};
        for (int way = 0; way < 2; way++) {
            for (int tone = 0; tone < 8; tone++) {
                for (int what = 0; what <= 6; what++) {
                    check.due("street(" + way + ", " + tone + ", " + what + ")", x.street(way, tone, what), due[what]);
                }
            }
        }
        check.due("the seed, at first 1", x.count(1), 1);
    }

    // "a gain, at first 64, and two echoes, at first 0; and how many bits the tone carries, at first 0"
    private void aNewAccent() {
        AccentModems x = new AccentModems();
        int[] due = {64, 0, 0, 0, -1, 0, 0, 0, 0, 0, 0};
        for (int way = 0; way < 2; way++) {
            for (int tone = 0; tone < 8; tone++) {
                for (int what = 0; what <= 10; what++) {
                    check.due("accent(" + way + ", " + tone + ", " + what + ")", x.accent(way, tone, what), due[what]);
                }
            }
        }
    }

    // "0: patience, at first 8; 1: the margin in quarters, at first 8; 2: the wrong signs .., at first 3"
    private void newSettings() {
        AccentModems x = new AccentModems();
        check.due("patience", x.setting(0), 8);
        check.due("margin", x.setting(1), 8);
        check.due("wrong signs", x.setting(2), 3);
    }

    // "Creates modems and a street as told, with an empty buffer"
    private void anEmptyBufferAndEmptyRows() {
        AccentModems x = new AccentModems();
        check.due("firstError", x.firstError(), 0);
        check.due("clearBuffer", x.clearBuffer(), 0);
        for (int what = 0; what <= 12; what++) {
            check.due("count(" + what + ")", x.count(what), what == 1 ? 1 : 0);
        }
        check.due("had there", x.had(0), 0);
        check.due("had back", x.had(1), 0);
    }

    /** The sign 0 of one bit is sent, and hurts tells how far what comes is below the middle: 1 - r. */
    private static AccentModems oneBit(int way, int tone) {
        AccentModems x = new AccentModems();
        x.carry(way, tone, 1);
        return x;
    }

    // "the amplitudes A1 and A2 of the last sign and of the sign before it on this tone and way (0 if there were none)"
    private void noSignsBefore() {
        AccentModems x = oneBit(0, 7);
        x.build(0, 7, 1, 20);
        x.build(0, 7, 2, 12);
        check.due("without a sign before", x.hurts(0, 7), 1 + 128);
        x.send(0, 1);
        check.due("with one sign before", x.hurts(0, 7), 1 + 128 + 40);
        check.due("the last sign", x.street(0, 7, 5), -128);
        check.due("no sign before it", x.street(0, 7, 6), 0);
        x.send(0, 1);
        check.due("with two signs before", x.hurts(0, 7), 1 + 128 + 40 + 24);
        check.due("the sign before it", x.street(0, 7, 6), -128);
        x.send(0, 1);
        check.due("with three signs before", x.hurts(0, 7), 1 + 128 + 40 + 24);
    }

    private void noSignsBeforeInLearning() {
        AccentModems x = new AccentModems();
        x.build(0, 0, 1, 32);
        x.build(0, 0, 2, 32);
        x.learn(0, 1);
        check.due("no echo comes with the first sign", x.accent(0, 0, 4), 0);
        check.due("gain", x.accent(0, 0, 0), 64);
        check.due("first echo", x.accent(0, 0, 1), 0);
        x.learn(0, 1);
        check.due("one echo comes with the second sign", x.accent(0, 0, 4), 64);
        // 64 * 128 / 1024
        check.due("first echo", x.accent(0, 0, 1), 8);
        check.due("second echo, of no sign", x.accent(0, 0, 2), 0);
    }

    private void signsBeforeAreOfThisToneAndWay() {
        AccentModems x = oneBit(0, 3);
        x.carry(0, 4, 1);
        x.carry(1, 4, 1);
        x.build(0, 4, 1, 32);
        x.build(1, 4, 1, 32);
        x.send(1, 1);
        check.due("the other way has sent no sign", x.hurts(0, 4), 129);
        check.due("this way has", x.hurts(1, 4), 193);
        check.due("last sign there", x.street(0, 4, 5), 0);
        check.due("last sign back", x.street(1, 4, 5), -128);
        check.due("last sign of another tone", x.street(1, 3, 5), 0);
    }

    // "the insult that waits for this tone and way (0 if none does; it is gone then)"
    private void noInsultWaits() {
        AccentModems x = oneBit(1, 0);
        check.due("none waits", x.hurts(1, 0), 129);
        x.insult(1, 0, 0);
        check.due("one of 0", x.hurts(1, 0), 129);
        check.due("one of 0 does not count", x.count(11), 0);
        x.insult(1, 0, 28);
        check.due("one of 28", x.hurts(1, 0), 101);
        x.insult(1, 1, 28);
        x.insult(0, 0, 28);
        check.due("those of others", x.hurts(1, 0), 101);
    }

    private void theInsultIsGoneThen() {
        AccentModems x = new AccentModems();
        x.carry(0, 1, 1);
        for (int tone = 0; tone < 2; tone++) {
            x.insult(0, tone, 300);
            x.insult(1, tone, -200);
        }
        check.due("wrong bits", x.send(0, 1), 1);
        check.due("gone, of a tone without bits, too", x.street(0, 0, 4), 0);
        check.due("gone", x.street(0, 1, 4), 0);
        check.due("the other way's stays", x.street(1, 0, 4), -200);
        check.due("tones with an insult", x.count(11), 2);
        check.due("wrong bits of the next beat", x.send(0, 1), 0);
        x.learn(1, 1);
        check.due("gone by learning", x.street(1, 0, 4), 0);
        check.due("gone by learning", x.street(1, 1, 4), 0);
        check.due("tones with an insult", x.count(11), 0);
        check.due("it was felt", x.accent(1, 1, 4), 200);
        x.learn(1, 1);
        check.due("it is felt once", x.accent(1, 0, 4) < 200 ? 1 : 0, 1);
        x.undo();
        x.undo();
        check.due("it waits again", x.street(1, 0, 4), -200);
    }

    // "what waits for its next sign (also one of learning)"
    private void theInsultIsOfTheNextSignAlone() {
        AccentModems x = new AccentModems();
        x.carry(0, 2, 1);
        x.insult(0, 2, 300);
        check.due("3 beats with one of them wrong", x.send(0, 3), 1);
        check.due("wrong signs", x.accent(0, 2, 8), 1);
        check.due("signs", x.accent(0, 2, 7), 3);
        AccentModems y = new AccentModems();
        y.set(0, 64);
        y.insult(0, 2, 50);
        y.learn(0, 9);
        check.due("the eight beats behind the first feel none", y.accent(0, 2, 4), 0);
    }

    // "11: tones, of both ways, for which an insult that is not 0 waits"
    private void countOfInsults() {
        AccentModems x = new AccentModems();
        check.due("none", x.count(11), 0);
        for (int i = 0; i < 16; i++) {
            x.insult(i / 8, i % 8, i % 2 == 0 ? 1 : -1);
            check.due("one more", x.count(11), i + 1);
        }
        x.insult(0, 0, 1);
        check.due("an insult more of a tone", x.count(11), 16);
        x.insult(0, 0, -2);
        check.due("one less", x.count(11), 15);
        x.insult(1, 7, 1);
        check.due("two less", x.count(11), 14);
    }

    private void insultsOfAThousandArrive() {
        for (int sign = -1; sign <= 1; sign += 2) {
            AccentModems x = new AccentModems();
            for (int by : new int[] {300, 300, 300, 100}) {
                x.insult(0, 0, sign * by);
                x.insult(0, 1, sign * by);
            }
            x.set(0, 64);
            x.learn(0, 1);
            check.due("the error of 1000", x.accent(0, 0, 4), 1000);
            // 1000 * 128 / 8192 is 15.625; A is -128 and 128
            check.due("gain", x.accent(0, 0, 0), 64 - sign * 15);
            check.due("gain", x.accent(0, 1, 0), 64 + sign * 15);
        }
    }

    private static long next(long seed) {
        return (1103515245L * seed + 12345L) % 2147483648L;
    }

    // "In a beat it is drawn once for each tone, by ascending numbers"; in learning for the amplitude, too
    private void drawsOnceForEachTone() {
        for (int way = 0; way < 2; way++) {
            AccentModems x = new AccentModems();
            long seed = 1;
            x.carry(way, 5, 4);
            x.build(way, 6, 3, 60);
            for (int beat = 1; beat <= 40; beat++) {
                x.send(way, 1);
                for (int i = 0; i < 8; i++) {
                    seed = next(seed);
                }
                check.due("seed behind sending", x.count(1), seed);
                x.learn(1 - way, 2);
                for (int i = 0; i < 32; i++) {
                    seed = next(seed);
                }
                check.due("seed behind learning", x.count(1), seed);
            }
        }
        AccentModems y = new AccentModems();
        y.build(0, 0, 0, 70);
        y.insult(0, 0, 5);
        y.carry(0, 0, 4);
        y.forget(0);
        y.ifSent(0, 5, 0);
        y.ifLearned(0, 5);
        y.digest();
        check.due("nothing else draws", y.count(1), 1);
    }

    // "a number from 0 to 2147483647, .. the remainder of (1103515245 * seed + 12345) by 2147483648"
    private void theSeedWrapsAround() {
        AccentModems x = new AccentModems();
        long seed = 1;
        boolean isLow = false;
        boolean isHigh = false;
        for (int i = 0; i < 50; i++) {
            x.send(i % 2, 100);
            for (int draws = 0; draws < 800; draws++) {
                seed = next(seed);
            }
            check.due("seed behind " + (i + 1) * 100 + " beats", x.count(1), seed);
            isLow |= seed < 200000000;
            isHigh |= seed > 2000000000;
        }
        check.due("seeds from end to end", isLow && isHigh ? 1 : 0, 1);
    }

    // "(draw(2 * noise + 1) - noise)": from -noise to noise
    private void theNoiseOfEachTone() {
        for (int noise : new int[] {1, 60}) {
            boolean isLeast = false;
            boolean isGreatest = false;
            for (int tone = 0; tone < 8; tone += 7) {
                AccentModems x = oneBit(0, tone);
                x.build(0, tone, 3, noise);
                long seed = 1;
                for (int beat = 0; beat < 200; beat++) {
                    for (int i = 0; i < 8; i++) {
                        seed = next(seed);
                        if (i == tone) {
                            long due = seed / 65536 % (2 * noise + 1) - noise;
                            check.due("noise in the beat " + beat, 129 - x.hurts(0, tone), due);
                            isLeast |= due == -noise;
                            isGreatest |= due == noise;
                        }
                    }
                    x.send(0, 1);
                }
            }
            check.due("the least and the greatest noise came", isLeast && isGreatest ? 1 : 0, 1);
        }
    }

    private void noNoise() {
        AccentModems x = oneBit(0, 4);
        x.build(0, 3, 3, 60);
        x.build(0, 5, 3, 60);
        x.build(1, 4, 3, 60);
        for (int beat = 0; beat < 50; beat++) {
            check.due("no noise", x.hurts(0, 4), 129);
            x.send(0, 1);
        }
    }

    // "a gain, 16 to 96, two echoes, -32 to 32"
    private void leastAndGreatestGainAndEchoes() {
        AccentModems x = oneBit(0, 0);
        x.build(0, 0, 0, 16);
        check.due("the least gain", x.hurts(0, 0), 1 + 32);
        x.build(0, 0, 0, 96);
        check.due("the greatest gain", x.hurts(0, 0), 1 + 192);
        x.send(0, 2);
        x.build(0, 0, 0, 64);
        x.build(0, 0, 1, 32);
        x.build(0, 0, 2, 32);
        check.due("the greatest echoes", x.hurts(0, 0), 1 + 128 + 64 + 64);
        x.build(0, 0, 1, -32);
        check.due("the least first echo", x.hurts(0, 0), 1 + 128 - 64 + 64);
        x.build(0, 0, 2, -32);
        check.due("the least echoes", x.hurts(0, 0), 1 + 128 - 64 - 64);
    }

    // "divisions are cut towards 0 (as in Java)"
    private void whatComesIsCutTowardsZero() {
        AccentModems x = new AccentModems();
        x.build(0, 0, 0, 65);
        x.carry(0, 0, 4);
        // 65 * -240 / 64 is -243.75: 20 below the first number that is not nearest to -240
        check.due("below 0", x.hurts(0, 0), 243 - 223);
        Check.say(x, "a:f");
        // 243.75: 19 above the middle, which belongs to the sign below
        check.due("above 0", x.hurts(0, 0), 243 - 224);
        AccentModems y = new AccentModems();
        y.set(0, 1);
        y.insult(0, 1, 300);
        y.learn(0, 1);
        check.due("the gain of the accent", y.accent(0, 1, 0), 128);
        y.build(0, 1, 0, 64);
        y.forget(1);
        y.carry(0, 0, 0);
        y.carry(0, 1, 2);
        Check.say(y, "a:4");
        // x * 64 / 128 is -127.5, which is cut to -127 and above the middle of -192 and -64
        y.insult(0, 1, -191);
        y.send(0, 1);
        check.due("-255 / 2", y.accent(0, 1, 9), -64);
        y.undo();
        y.insult(0, 1, -1);
        y.send(0, 1);
        check.due("-256 / 2", y.accent(0, 1, 9), -192);
        y.undo();
        y.insult(0, 1, 192 + 65);
        y.send(0, 1);
        check.due("1 / 2 is 0 and in the middle", y.accent(0, 1, 9), -64);
        y.undo();
        y.insult(0, 1, 1);
        y.send(0, 1);
        check.due("2 / 2 is above it", y.accent(0, 1, 9), 64);
    }

    // "(Wrong signs stay.)"
    private void carryLetsWrongSignsStay() {
        AccentModems x = oneBit(0, 0);
        x.insult(0, 0, 300);
        x.send(0, 1);
        for (int bits : new int[] {0, 4, 1, 1, 3, 0}) {
            x.carry(0, 0, bits);
            check.due("wrong signs", x.accent(0, 0, 5), 1);
            check.due("signs", x.accent(0, 0, 7), 1);
            check.due("wrong signs so far", x.accent(0, 0, 8), 1);
        }
    }

    // "Returns the previous number", also if it is the same
    private void theSameNumberAgain() {
        AccentModems x = new AccentModems();
        check.due("build", x.build(0, 0, 0, 64), 64);
        check.due("build", x.build(0, 0, 0, 96), 64);
        check.due("build", x.build(0, 0, 0, 96), 96);
        check.due("carry", x.carry(0, 0, 0), 0);
        check.due("carry", x.carry(0, 0, 4), 0);
        check.due("carry", x.carry(0, 0, 4), 4);
        check.due("set", x.set(2, 3), 3);
        check.due("set", x.set(2, 50), 3);
        check.due("set", x.set(2, 50), 50);
        check.due("insult", x.insult(0, 0, 0), 0);
    }
}
