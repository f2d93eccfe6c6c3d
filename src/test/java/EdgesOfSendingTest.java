import java.util.ArrayDeque;
import java.util.Deque;

/** The boundary cases of the document's signs and "Sending", sentence by sentence, and of promises 7, 16, 17 and 26. */
public final class EdgesOfSendingTest {
    private static final Class<IndexOutOfBoundsException> INDEX = IndexOutOfBoundsException.class;

    private final Check check = new Check();

    public static void main(String[] args) {
        EdgesOfSendingTest test = new EdgesOfSendingTest();
        test.theAmplitudesOfAllSigns();
        test.withoutBits();
        test.theMiddleBelongsToTheLowerSign();
        test.beyondTheLastSigns();
        test.echoesOfWhatWasTaken();
        test.whatIsTakenAwayIsCut();
        test.whereNoneIsLeft();
        test.whereSomeAreLeft();
        test.asManyAsThereAre();
        test.filledInBitsCount();
        test.aSignIsWrongByOneBit();
        test.aFullRow();
        test.rowsGoRound();
        test.waitsInAnEmptyRow();
        test.shyByWrongSigns();
        test.shyByMoreWrongSigns();
        test.shyFromFourBitsToNone();
        test.notShyWithoutBits();
        test.shySinceTheLatestLearning();
        test.shySinceItBecameShy();
        test.shyBehindTheBeat();
        test.allTonesBecomeShy();
        test.shyByTheLeastAndTheGreatestSetting();
        test.theLatestSixty();
        test.noneCame();
        test.theShareOfNoneAndOfAll();
        test.aHundredBeats();
        test.check.end();
    }

    private static void say(AccentModems x, int way, String digits) {
        Check.say(x, (way == 0 ? "a:" : "b:") + digits);
    }

    // "there are 2 to the b signs v, .. with the amplitudes (2 * v + 1 - 2 to the b) * (256 shifted right by b)"
    private void theAmplitudesOfAllSigns() {
        int[][] amplitudes = {{}, {-128, 128}, {-192, -64, 64, 192}, {-224, -160, -96, -32, 32, 96, 160, 224},
            {-240, -208, -176, -144, -112, -80, -48, -16, 16, 48, 80, 112, 144, 176, 208, 240}};
        for (int bits = 1; bits <= 4; bits++) {
            for (int v = 0; v < 1 << bits; v++) {
                AccentModems x = new AccentModems();
                x.carry(v % 2, 7, bits);
                say(x, v % 2, Integer.toHexString(v << (4 - bits)));
                check.due("wrong bits", x.send(v % 2, 1), 0);
                check.due(bits + " bits, the sign " + v, x.street(v % 2, 7, 5), amplitudes[bits][v]);
                check.due(bits + " bits, taken for", x.accent(v % 2, 7, 9), amplitudes[bits][v]);
                check.due("it came", x.had(v % 2), v);
                check.due("bits left", x.count(2 + v % 2), 4 - bits);
            }
        }
    }

    // "with 0 bits the amplitude is 0", "(With 0 bits it takes the amplitude 0.)"
    private void withoutBits() {
        AccentModems x = new AccentModems();
        x.learn(0, 1);
        for (int tone = 0; tone < 8; tone++) {
            x.carry(0, tone, 0);
            x.insult(0, tone, tone % 2 == 0 ? 300 : -300);
        }
        say(x, 0, "ff");
        check.due("send", x.send(0, 1), 0);
        for (int tone = 0; tone < 8; tone++) {
            check.due("amplitude", x.street(0, tone, 5), 0);
            check.due("taken for", x.accent(0, tone, 9), 0);
            check.due("the sign before", Math.abs(x.street(0, tone, 6)), 128);
            check.due("the sign before, taken for", x.accent(0, tone, 10), x.street(0, tone, 6));
            check.due("signs with bits", x.accent(0, tone, 7), 0);
            check.due("wrong signs", x.accent(0, tone, 8) + x.accent(0, tone, 5), 0);
        }
        check.due("bits that wait", x.count(2), 8);
        check.due("bits that came", x.count(4), 0);
        check.due("had", x.had(0), 0);
        check.due("beats", x.count(0), 2);
    }

    // "the sign is the one whose amplitude is nearest to y, of two the one with the lower number"
    private void theMiddleBelongsToTheLowerSign() {
        for (int bits = 1; bits <= 4; bits++) {
            int half = 256 >> bits;
            for (int v = 0; v < 1 << bits; v++) {
                for (int by : new int[] {half, half + 1, -half, 1 - half}) {
                    int due = v + (by > half ? 1 : by == -half ? -1 : 0);
                    due = Math.max(0, Math.min((1 << bits) - 1, due));
                    AccentModems x = new AccentModems();
                    x.carry(1, 3, bits);
                    say(x, 1, Integer.toHexString(v << (4 - bits)));
                    x.insult(1, 3, by);
                    check.due("wrong bits", x.send(1, 1), Integer.bitCount(v ^ due));
                    check.due(bits + " bits, the sign " + v + " and " + by, x.had(1), due);
                    check.due("wrong signs", x.accent(1, 3, 8), v == due ? 0 : 1);
                }
            }
        }
    }

    private void beyondTheLastSigns() {
        for (int bits = 1; bits <= 4; bits++) {
            for (int v = 0; v < 1 << bits; v += (1 << bits) - 1) {
                for (int sign = -1; sign <= 1; sign += 2) {
                    AccentModems x = new AccentModems();
                    x.carry(0, 0, bits);
                    say(x, 0, Integer.toHexString(v << (4 - bits)));
                    for (int by : new int[] {300, 300, 300, 100}) {
                        x.insult(0, 0, sign * by);
                    }
                    x.send(0, 1);
                    check.due("a thousand beyond", x.accent(0, 0, 9), sign * (256 - (256 >> bits)));
                }
            }
        }
    }

    // "with the amplitudes D1 and D2 that it took the last sign and the sign before it on this tone for"
    private void echoesOfWhatWasTaken() {
        AccentModems x = new AccentModems();
        x.set(0, 1);
        x.learn(0, 2);
        int one = x.street(0, 0, 5) / 128;
        x.insult(0, 0, 40 * one);
        x.learn(0, 1);
        check.due("first echo of the accent", x.accent(0, 0, 1), 40);
        int two = x.accent(0, 0, 2);
        check.due("second echo of the accent", Math.abs(two), 40);
        x.set(2, 50);
        x.carry(0, 0, 1);
        int gain = x.accent(0, 0, 0);
        for (int beat = 0; beat < 40; beat++) {
            int echo = (40 * x.accent(0, 0, 9) + two * x.accent(0, 0, 10)) / 64;
            int y = (-128 - echo) * 64 / gain;
            int due = y <= 0 ? -128 : 128;
            check.due("wrong bits", x.send(0, 1), due == -128 ? 0 : 1);
            check.due("taken for", x.accent(0, 0, 9), due);
            x.insult(0, 0, beat % 3 * 100);
            x.learn(1, 1);
            x.undo();
            x.undo();
        }
    }

    // "x = r - (first echo of the accent * D1 + second echo of the accent * D2) / 64", cut towards 0
    private void whatIsTakenAwayIsCut() {
        for (int echo = -1; echo <= 1; echo += 2) {
            for (int by = 0; by <= 70; by++) {
                AccentModems x = new AccentModems();
                x.set(0, 1);
                x.learn(0, 1);
                x.insult(0, 0, -echo);
                x.learn(0, 1);
                x.carry(0, 0, 4);
                x.send(0, 1);
                check.due("first echo of the accent", x.accent(0, 0, 1), echo);
                check.due("second echo of the accent", x.accent(0, 0, 2), 0);
                check.due("taken for", x.accent(0, 0, 9), -240);
                x.insult(0, 0, by);
                x.send(0, 1);
                // -240 / 64 is -3, and 240 / 64 is 3
                int y = (-240 + by + 3 * echo) * 64 / x.accent(0, 0, 0);
                check.due("taken for, by " + by, x.accent(0, 0, 9), y <= -224 ? -240 : y <= -192 ? -208 : -176);
            }
        }
    }

    // "where none are left, 0"
    private void whereNoneIsLeft() {
        AccentModems x = new AccentModems();
        for (int tone = 0; tone < 8; tone++) {
            x.carry(0, tone, 1 + tone % 4);
        }
        check.due("send", x.send(0, 1), 0);
        for (int tone = 0; tone < 8; tone++) {
            check.due("the lowest sign", x.street(0, tone, 5), (256 >> (1 + tone % 4)) - 256);
        }
        check.due("had", x.had(0), 0);
        check.due("bits that came", x.count(4), 20);
        check.due("bits that wait", x.count(2), 0);
    }

    // a sign takes the last bits that there are as its highest ones
    private void whereSomeAreLeft() {
        for (int there = 4; there <= 12; there += 4) {
            for (int bits = 1; bits <= 4; bits++) {
                AccentModems x = new AccentModems();
                for (int tone = 0; tone < 8; tone++) {
                    x.carry(1, tone, bits);
                }
                say(x, 1, "f".repeat(there / 4));
                check.due("send", x.send(1, 1), 0);
                for (int tone = 0; tone < 8; tone++) {
                    int ones = Math.max(0, Math.min(bits, there - tone * bits));
                    int sign = ((1 << ones) - 1) << (bits - ones);
                    check.due(ones + " of " + bits + " bits are left", x.street(1, tone, 5),
                            (2 * sign + 1 - (1 << bits)) * (256 >> bits));
                }
                check.due("bits that came", x.count(5), 8 * bits);
                check.due("bits that wait", x.count(3), Math.max(0, there - 8 * bits));
            }
        }
    }

    private void asManyAsThereAre() {
        AccentModems x = new AccentModems();
        for (int tone = 0; tone < 8; tone++) {
            x.carry(0, tone, 4);
        }
        say(x, 0, "01234567");
        check.due("just enough", x.send(0, 1), 0);
        check.due("none is left", x.count(2), 0);
        check.due("had", x.had(0), 0x01234567L);
        say(x, 0, "89abcdef1");
        check.due("one digit more", x.send(0, 1), 0);
        check.due("one digit is left", x.count(2), 4);
        check.due("had", x.had(0), 0x123456789abcdefL);
        x.send(0, 1);
        check.due("none is left", x.count(2), 0);
        check.due("had", x.had(0), 0x9abcdef10000000L);
    }

    // "(those that were filled in count, too)"
    private void filledInBitsCount() {
        AccentModems x = new AccentModems();
        x.carry(0, 0, 4);
        x.insult(0, 0, 300);
        // -240 + 300 is 60, for which 1001 is taken
        check.due("wrong bits", x.send(0, 1), 2);
        check.due("wrong bits so far", x.count(6), 2);
        check.due("bits that came", x.count(4), 4);
        check.due("wrong signs", x.accent(0, 0, 8), 1);
        check.due("wrong signs to shyness", x.accent(0, 0, 5), 1);
        check.due("ifSent", x.ifSent(0, 1, 0), 0);
        x.undo();
        check.due("ifSent before", x.ifSent(0, 1, 0), 2);
        check.dueDouble("rightShare", x.rightShare(0), 1.0);
    }

    // "a sign is wrong if one of its bits is"
    private void aSignIsWrongByOneBit() {
        // the sign that is sent, the insult, the wrong bits
        int[][] rows = {{0, 32, 1}, {0, 64, 1}, {0, 96, 2}, {0, 128, 1}, {0, 300, 2}, {7, 32, 4}, {8, -32, 4},
            {15, -32, 1}, {5, 0, 0}, {0, 16, 0}, {15, 300, 0}};
        for (int[] row : rows) {
            AccentModems x = new AccentModems();
            x.carry(0, 5, 4);
            say(x, 0, Integer.toHexString(row[0]));
            x.insult(0, 5, row[1]);
            check.due("wrong bits of " + row[0] + " and " + row[1], x.send(0, 1), row[2]);
            check.due("wrong signs", x.accent(0, 5, 8), row[2] > 0 ? 1 : 0);
            check.due("wrong signs to shyness", x.accent(0, 5, 5), row[2] > 0 ? 1 : 0);
            check.due("signs", x.accent(0, 5, 7), 1);
            check.due("bits that came", x.count(4), 4);
        }
    }

    // "a row of bits that wait, at most 256"
    private void aFullRow() {
        for (int way = 0; way < 2; way++) {
            int w = way;
            AccentModems x = new AccentModems();
            say(x, way, "8".repeat(58));
            say(x, way, "00000f");
            check.due("bits that wait", x.count(2 + way), 256);
            check.due("bits of the other way", x.count(3 - way), 0);
            check.due("the first one", x.waits(way, 0), 1);
            check.due("the second one", x.waits(way, 1), 0);
            check.due("the last but four", x.waits(way, 251), 0);
            check.due("the last one", x.waits(way, 255), 1);
            check.dueThrow("none behind it", INDEX, () -> x.waits(w, 256));
            x.carry(way, 0, 1);
            check.due("beatsFor", x.beatsFor(way), 256);
            x.send(way, 1);
            check.due("bits that wait", x.count(2 + way), 255);
            check.due("the first one", x.waits(way, 0), 0);
            check.due("the last one", x.waits(way, 254), 1);
            check.dueThrow("none behind it", INDEX, () -> x.waits(w, 255));
        }
    }

    private void rowsGoRound() {
        AccentModems x = new AccentModems();
        Deque<Integer> due = new ArrayDeque<>();
        x.carry(0, 1, 4);
        x.carry(0, 4, 3);
        for (int i = 0; i < 30; i++) {
            String digits = Integer.toHexString(i * 7919 % 4096 + 4096).substring(1);
            say(x, 0, digits);
            for (char digit : digits.toCharArray()) {
                for (int shift = 3; shift >= 0; shift--) {
                    due.addLast(Character.digit(digit, 16) >> shift & 1);
                }
            }
            x.send(0, 1);
            for (int j = 0; j < 7; j++) {
                due.removeFirst();
            }
            check.due("bits that wait", x.count(2), due.size());
            check.due("the first one", x.waits(0, 0), due.getFirst());
            check.due("the last one", x.waits(0, due.size() - 1), due.getLast());
        }
        x.send(0, 15);
        for (int i = 0; i < 105; i++) {
            due.removeFirst();
        }
        for (int place = 0; !due.isEmpty(); place++) {
            check.due("waits(0, " + place + ")", x.waits(0, place), due.removeFirst());
        }
    }

    private void waitsInAnEmptyRow() {
        for (int way = 0; way < 2; way++) {
            int w = way;
            AccentModems x = new AccentModems();
            check.dueThrow("a new row", INDEX, () -> x.waits(w, 0));
            say(x, 1 - way, "f");
            check.dueThrow("bits of the other way", INDEX, () -> x.waits(w, 0));
            say(x, way, "f");
            check.due("the last one", x.waits(way, 3), 1);
            x.carry(way, 0, 4);
            x.send(way, 1);
            check.dueThrow("all are sent", INDEX, () -> x.waits(w, 0));
        }
    }

    /** Sends one wrong sign on the tone; the sign 0 is the lowest one. */
    private static int sendWrong(AccentModems x, int way, int tone) {
        x.insult(way, tone, 300);
        return x.send(way, 1);
    }

    // "whose wrong signs .. are at least setting 2, becomes shy"
    private void shyByWrongSigns() {
        for (int many = 1; many <= 6; many++) {
            AccentModems x = new AccentModems();
            x.set(2, many);
            x.carry(1, 2, 1);
            for (int i = 1; i < many; i++) {
                sendWrong(x, 1, 2);
                check.due("not yet shy", x.accent(1, 2, 3), 1);
                check.due("wrong signs", x.accent(1, 2, 5), i);
                check.due("how often", x.accent(1, 2, 6) + x.count(10), 0);
            }
            check.due("a right sign does not count", x.send(1, 3), 0);
            check.due("wrong signs", x.accent(1, 2, 5), many - 1);
            check.due("ifSent", x.ifSent(1, 1, 1), 0);
            x.insult(1, 2, 300);
            check.due("ifSent", x.ifSent(1, 1, 1), 1);
            x.send(1, 1);
            check.due("shy", x.accent(1, 2, 3), 0);
            check.due("wrong signs are forgotten", x.accent(1, 2, 5), 0);
            check.due("how often", x.accent(1, 2, 6), 1);
            check.due("how often all", x.count(10), 1);
            check.due("wrong signs so far", x.accent(1, 2, 8), many);
        }
    }

    private void shyByMoreWrongSigns() {
        AccentModems x = new AccentModems();
        x.set(2, 50);
        x.carry(0, 0, 2);
        for (int i = 0; i < 7; i++) {
            sendWrong(x, 0, 0);
        }
        check.due("wrong signs", x.accent(0, 0, 5), 7);
        x.set(2, 8);
        x.send(0, 1);
        check.due("7 are less than 8", x.accent(0, 0, 3), 2);
        x.set(2, 4);
        check.due("a setting makes none shy", x.accent(0, 0, 3), 2);
        check.due("nor does the other way", x.send(1, 1) + x.accent(0, 0, 6), 0);
        check.due("a right sign", x.send(0, 1), 0);
        check.due("shy by 7, which are more than 4", x.accent(0, 0, 3), 1);
        check.due("all are forgotten", x.accent(0, 0, 5), 0);
        check.due("once", x.accent(0, 0, 6), 1);
    }

    // "it carries 1 bit less then"
    private void shyFromFourBitsToNone() {
        AccentModems x = new AccentModems();
        x.set(2, 1);
        x.carry(0, 6, 4);
        for (int bits = 3; bits >= 0; bits--) {
            sendWrong(x, 0, 6);
            check.due("bits", x.accent(0, 6, 3), bits);
            check.due("bits of the way", x.count(8), bits);
            check.due("how often", x.accent(0, 6, 6), 4 - bits);
        }
        check.due("signs with bits", x.accent(0, 6, 7), 4);
        sendWrong(x, 0, 6);
        check.due("no bits", x.accent(0, 6, 3), 0);
        check.due("how often", x.accent(0, 6, 6), 4);
        check.due("signs with bits", x.accent(0, 6, 7), 4);
        check.due("bits that came", x.count(4), 4 + 3 + 2 + 1);
    }

    // "each tone that carries bits"
    private void notShyWithoutBits() {
        AccentModems x = new AccentModems();
        x.carry(0, 0, 1);
        sendWrong(x, 0, 0);
        sendWrong(x, 0, 0);
        x.carry(0, 0, 0);
        x.set(2, 1);
        x.send(0, 20);
        check.due("bits", x.accent(0, 0, 3), 0);
        check.due("how often", x.accent(0, 0, 6), 0);
        check.due("wrong signs", x.accent(0, 0, 5), 2);
        x.carry(0, 0, 4);
        x.send(0, 20);
        check.due("bits", x.accent(0, 0, 3), 3);
        check.due("how often", x.accent(0, 0, 6), 1);
        check.due("wrong signs", x.accent(0, 0, 5), 0);
    }

    // "whose wrong signs since the latest learning"
    private void shySinceTheLatestLearning() {
        AccentModems x = new AccentModems();
        x.set(2, 2);
        x.carry(0, 0, 4);
        sendWrong(x, 0, 0);
        x.learn(1, 1);
        check.due("the other way's learning", x.accent(0, 0, 5), 1);
        x.learn(0, 1);
        check.due("forgotten", x.accent(0, 0, 5), 0);
        check.due("bits", x.accent(0, 0, 3), 4);
        sendWrong(x, 0, 0);
        check.due("the first one since", x.accent(0, 0, 3), 4);
        sendWrong(x, 0, 0);
        check.due("the second one since", x.accent(0, 0, 3), 3);
        sendWrong(x, 0, 0);
        x.forget(0);
        check.due("forgotten with the accent", x.accent(0, 0, 5), 0);
    }

    // "or since it became shy", "(its wrong signs are forgotten)"
    private void shySinceItBecameShy() {
        AccentModems x = new AccentModems();
        x.set(2, 2);
        x.carry(0, 3, 4);
        int[] bits = {4, 3, 3, 2, 2, 1, 1, 0, 0};
        for (int i = 0; i < bits.length; i++) {
            sendWrong(x, 0, 3);
            check.due("bits behind " + (i + 1) + " wrong signs", x.accent(0, 3, 3), bits[i]);
            check.due("wrong signs since", x.accent(0, 3, 5), i < 8 ? (i + 1) % 2 : 0);
        }
        check.due("wrong signs so far", x.accent(0, 3, 8), 8);
    }

    // "Behind a beat of sending": the tone takes its bits, and the tones behind it theirs, before it becomes shy
    private void shyBehindTheBeat() {
        AccentModems x = new AccentModems();
        x.set(2, 1);
        x.carry(0, 0, 3);
        x.carry(0, 1, 2);
        say(x, 0, "1f00");
        x.insult(0, 0, 300);
        // 000 11, then 11 11, 00 00, 00 0.
        check.due("wrong bits", x.ifSent(0, 1, 0) > 0 ? 1 : 0, 1);
        x.send(0, 2);
        check.due("bits taken", x.count(2), 16 - 5 - 4);
        check.due("sent in the second beat", x.street(0, 0, 5), 192);
        check.due("sent in the second beat", x.street(0, 1, 5), 64);
        check.due("bits", x.accent(0, 0, 3), 2);
        check.due("bits of the other tone", x.accent(0, 1, 3), 2);
        check.due("beatsFor", x.beatsFor(0), 2);
    }

    private void allTonesBecomeShy() {
        AccentModems x = new AccentModems();
        x.set(2, 1);
        for (int tone = 0; tone < 8; tone++) {
            x.carry(0, tone, 1);
            x.carry(1, tone, 1);
            x.insult(0, tone, 300);
        }
        check.due("ifSent", x.ifSent(0, 1, 1), 8);
        check.due("wrong bits", x.send(0, 1), 8);
        check.due("how often all", x.count(10), 8);
        check.due("bits there", x.count(8), 0);
        check.due("bits back", x.count(9), 8);
        check.due("ifSent", x.ifSent(0, 100, 1), 0);
    }

    // "the wrong signs by which a tone becomes shy, 1 to 50"
    private void shyByTheLeastAndTheGreatestSetting() {
        AccentModems x = new AccentModems();
        x.set(2, 50);
        x.carry(0, 7, 3);
        for (int i = 1; i <= 49; i++) {
            sendWrong(x, 0, 7);
        }
        check.due("49 wrong signs", x.accent(0, 7, 5), 49);
        check.due("bits", x.accent(0, 7, 3), 3);
        sendWrong(x, 0, 7);
        check.due("50 wrong signs", x.accent(0, 7, 5), 0);
        check.due("bits", x.accent(0, 7, 3), 2);
        x.set(2, 1);
        x.send(0, 50);
        check.due("right signs", x.accent(0, 7, 3), 2);
        sendWrong(x, 0, 7);
        check.due("one wrong sign", x.accent(0, 7, 3), 1);
    }

    // "Returns the latest 60 of them (all, if these are fewer) as a number, the latest one as the lowest bit"
    private void theLatestSixty() {
        for (int way = 0; way < 2; way++) {
            AccentModems x = new AccentModems();
            x.carry(way, 0, 1);
            say(x, way, "8" + "0".repeat(15) + "f" + "f".repeat(15));
            x.send(way, 1);
            check.due("1 bit", x.had(way), 1);
            x.send(way, 58);
            check.due("59 bits", x.had(way), 1L << 58);
            x.send(way, 1);
            check.due("60 bits", x.had(way), 1L << 59);
            x.send(way, 1);
            check.due("61 bits", x.had(way), 0);
            x.send(way, 3);
            check.due("64 bits", x.had(way), 0);
            x.send(way, 60);
            check.due("60 bits that are 1", x.had(way), (1L << 60) - 1);
            x.send(way, 4);
            check.due("64 bits that are 1", x.had(way), (1L << 60) - 1);
            x.send(way, 59);
            check.due("the last of them", x.had(way), 1L << 59);
            x.send(way, 1);
            check.due("and 60 that are 0", x.had(way), 0);
            check.due("the other way", x.had(1 - way), 0);
        }
        AccentModems y = new AccentModems();
        for (int tone = 0; tone < 8; tone++) {
            y.carry(0, tone, tone < 7 ? 4 : 3);
        }
        say(y, 0, "fffffffe" + "ffffffff");
        y.send(0, 1);
        check.due("31 bits", y.had(0), 0x7fffffffL);
        y.send(0, 1);
        // 31 bits that are 1, of which the first two are beyond the 60, then 0, then 30 bits that are 1
        check.due("the latest 60 of 62", y.had(0), 0x1fffffffL << 31 | 0x3fffffffL);
    }

    private void noneCame() {
        AccentModems x = new AccentModems();
        say(x, 0, "f");
        x.send(0, 10);
        x.learn(0, 1);
        x.ifSent(0, 5, 0);
        check.due("had", x.had(0), 0);
        check.due("bits that came", x.count(4), 0);
        check.due("bits that wait", x.count(2), 4);
        check.dueDouble("rightShare", x.rightShare(0), 1.0);
        x.carry(0, 0, 1);
        x.send(0, 1);
        check.due("1 bit and 4 of each of the tones that have learned", x.count(4), 29);
    }

    // "1.0 if there were none"
    private void theShareOfNoneAndOfAll() {
        for (int way = 0; way < 2; way++) {
            AccentModems x = new AccentModems();
            check.dueDouble("none", x.rightShare(way), 1.0);
            x.set(2, 50);
            x.carry(way, 1, 1);
            sendWrong(x, way, 1);
            check.dueDouble("all wrong", x.rightShare(way), 0.0);
            check.dueDouble("none of the other way", x.rightShare(1 - way), 1.0);
            sendWrong(x, way, 1);
            check.dueDouble("all wrong", x.rightShare(way), 0.0);
            x.send(way, 1);
            check.dueDouble("one of 3", x.rightShare(way), 1.0 / 3.0);
            x.send(way, 100);
            check.dueDouble("101 of 103", x.rightShare(way), 101.0 / 103.0);
            x.undo();
            x.undo();
            x.undo();
            x.undo();
            check.dueDouble("all wrong", x.rightShare(way), 0.0);
            AccentModems y = new AccentModems();
            y.carry(way, 1, 1);
            y.send(way, 1);
            check.dueDouble("all right", y.rightShare(way), 1.0);
        }
    }

    // "beats: 1 to 100": as many as one by one
    private void aHundredBeats() {
        for (int way = 0; way < 2; way++) {
            AccentModems x = Busy.BUSY.recipe.get();
            AccentModems y = Busy.BUSY.recipe.get();
            int wrong = 0;
            for (int i = 0; i < 100; i++) {
                wrong += y.send(way, 1);
            }
            check.due("wrong bits", x.send(way, 100), wrong);
            check.due("digest", x.digest(), y.digest());
            int bits = x.learn(way, 100);
            check.due("bits", bits, y.learn(way, 100));
            check.due("digest", x.digest(), y.digest());
        }
    }
}
