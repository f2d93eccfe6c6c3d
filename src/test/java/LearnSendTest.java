/** Promises 6 to 8 and 15 to 18: learning, sending, forgetting, and what is told of them. */
public final class LearnSendTest {
    private static final Class<IndexOutOfBoundsException> INDEX = IndexOutOfBoundsException.class;
    private static final Class<IllegalArgumentException> ARGUMENT = IllegalArgumentException.class;
    private static final Class<IllegalStateException> STATE = IllegalStateException.class;
    private static final int MIN = Integer.MIN_VALUE;
    private static final int MAX = Integer.MAX_VALUE;

    private final Check check = new Check();

    public static void main(String[] args) {
        LearnSendTest test = new LearnSendTest();
        test.aBeatOfLearning();
        test.aLessonWithEchoes();
        test.theWorstIsOfEightBeats();
        test.accentsAreHeldWithinBounds();
        test.theMarginIsCut();
        test.learningForgetsWrongSigns();
        test.learningKnowsTheSignsBefore();
        test.aBeatOfSending();
        test.whereNoneAreLeft();
        test.theNearestSign();
        test.levelsAreCut();
        test.echoesAreTakenAway();
        test.tonesBecomeShy();
        test.shyOnTheWayAlone();
        test.forgetting();
        test.theLatestSixtyBits();
        test.theLimitOfBeats();
        test.wrongWaysAndBeats();
        test.wrongQuestions();
        test.check.end();
    }

    private void street(String when, AccentModems x, int way, int what, int... due) {
        for (int tone = 0; tone < due.length; tone++) {
            check.due(when + ": street(" + way + ", " + tone + ", " + what + ")", x.street(way, tone, what), due[tone]);
        }
    }

    private void accent(String when, AccentModems x, int way, int what, int... due) {
        for (int tone = 0; tone < due.length; tone++) {
            check.due(when + ": accent(" + way + ", " + tone + ", " + what + ")", x.accent(way, tone, what), due[tone]);
        }
    }

    // draws: 16838, (5758), 10113, (17515), 31051, (5627), 23010, (7419), 16212, (4086), 2749, .. :
    // the odd ones are 128, and those in brackets the noise
    private void aBeatOfLearning() {
        AccentModems x = new AccentModems();
        x.build(0, 0, 0, 80);
        x.build(0, 1, 3, 60);
        x.insult(0, 2, -30);
        x.build(0, 3, 1, 20);
        x.insult(0, 4, 300);
        check.due("learn", x.learn(0, 1), 22);
        street("learned", x, 0, 5, -128, 128, 128, -128, -128, 128, -128, 128);
        street("learned", x, 0, 6, 0, 0, 0, 0, 0, 0, 0, 0);
        street("learned", x, 0, 4, 0, 0, 0, 0, 0, 0, 0, 0);
        accent("learned", x, 0, 9, -128, 128, 128, -128, -128, 128, -128, 128);
        accent("learned", x, 0, 10, 0, 0, 0, 0, 0, 0, 0, 0);
        // 17515 % 121 - 60 is 31; the steps -3.75, 3.875 and -37.5 are cut towards 0
        accent("learned", x, 0, 0, 68, 67, 61, 64, 27, 64, 64, 64);
        accent("learned", x, 0, 4, 32, 31, 30, 0, 300, 0, 0, 0);
        accent("learned", x, 0, 3, 2, 2, 2, 4, 0, 4, 4, 4);
        check.due("bits", x.count(8), 22);
        check.due("beats", x.count(0), 1);
        check.due("seed", x.count(1), 1149758321);
        check.due("nothing came", x.count(4), 0);
        check.due("no insult waits", x.count(11), 0);
        accent("the other way", x, 1, 0, 64, 64, 64, 64, 64, 64, 64, 64);
        accent("the other way", x, 1, 4, -1, -1, -1, -1, -1, -1, -1, -1);
        street("the other way", x, 1, 5, 0, 0, 0, 0, 0, 0, 0, 0);
        check.due("saved", x.undo(), 5);
        accent("undone", x, 0, 4, -1, -1, -1, -1, -1, -1, -1, -1);
        street("undone", x, 0, 4, 0, 0, -30, 0, 300, 0, 0, 0);
        check.due("seed undone", x.count(1), 1);
        check.due("beats undone", x.count(0), 0);
    }

    private static AccentModems echoes(int way) {
        AccentModems x = new AccentModems();
        x.set(0, 2);
        x.build(way, 0, 0, 80);
        x.build(way, 3, 1, 20);
        x.build(way, 3, 2, -12);
        x.build(way, 4, 1, -32);
        x.build(way, 5, 2, 32);
        x.build(way, 6, 1, 32);
        x.build(way, 6, 2, 32);
        return x;
    }

    // the numbers were found by another program, in Python
    private void aLessonWithEchoes() {
        for (int way = 0; way < 2; way++) {
            AccentModems x = echoes(way);
            x.learn(way, 1);
            x.learn(way, 2);
            accent("3 beats", x, way, 0, 80, 64, 64, 76, 64, 96, 32, 64);
            accent("3 beats", x, way, 1, 0, 0, 0, 48, 0, 32, 48, 0);
            accent("3 beats", x, way, 2, 0, 0, 0, -32, -32, 32, 48, 0);
            accent("3 beats", x, way, 4, 0, 0, 0, 64, 64, 64, 128, 0);
            street("3 beats", x, way, 5, -128, 128, -128, 128, -128, 128, 128, 128);
            street("3 beats", x, way, 6, 128, 128, -128, 128, 128, 128, -128, -128);
            check.due("seed", x.count(1), 878442065);
            x.learn(way, 7);
            accent("10 beats", x, way, 0, 80, 64, 64, 108, 128, 8, 128, 64);
            accent("10 beats", x, way, 1, 0, 0, 0, 28, -16, -48, -16, 0);
            accent("10 beats", x, way, 2, 0, 0, 0, -16, -16, 40, 16, 0);
            accent("10 beats", x, way, 4, 0, 0, 0, 120, 272, 160, 192, 0);
            street("10 beats", x, way, 5, -128, -128, 128, 128, 128, 128, 128, 128);
            street("10 beats", x, way, 6, -128, 128, -128, -128, -128, 128, 128, 128);
            check.due("seed", x.count(1), 403521121);
            check.due("beats", x.count(0), 10);
        }
    }

    private void theWorstIsOfEightBeats() {
        AccentModems x = echoes(0);
        x.learn(0, 8);
        check.due("the first of 8 beats", x.accent(0, 0, 4), 32);
        x = echoes(0);
        x.learn(0, 9);
        accent("9 beats", x, 0, 4, 0, 0, 0, 120, 272, 128, 192, 0);
        x = new AccentModems();
        x.insult(0, 0, 40);
        x.learn(0, 1);
        x.learn(0, 1);
        check.due("an error of the lesson before", x.accent(0, 0, 4) < 40 ? 1 : 0, 1);
        x = new AccentModems();
        x.insult(0, 0, -40);
        x.learn(0, 1);
        check.due("the size of an error below 0", x.accent(0, 0, 4), 40);
    }

    private void accentsAreHeldWithinBounds() {
        AccentModems x = new AccentModems();
        x.set(0, 1);
        x.insult(0, 0, 300);
        x.insult(0, 1, 300);
        x.build(0, 2, 0, 96);
        x.build(0, 3, 0, 95);
        x.insult(0, 4, 56);
        x.insult(0, 5, -55);
        x.learn(0, 1);
        // A is -128, 128, 128, -128, -128, 128
        accent("held", x, 0, 0, 8, 128, 128, 126, 8, 9);
        x = new AccentModems();
        x.set(0, 64);
        for (int by : new int[] {300, 300, 35}) {
            x.insult(0, 0, by);
            x.insult(0, 1, by);
        }
        x.learn(0, 1);
        // 635 * 128 is less than 10 * 128 * 64
        accent("slow", x, 0, 0, 55, 73);
        x = new AccentModems();
        x.set(0, 1);
        x.learn(0, 2);
        for (int tone = 0; tone < 4; tone++) {
            x.insult(0, tone, 300);
        }
        x.learn(0, 1);
        // A1 is 128, 128, -128, 128, and A2 -128, 128, 128, -128
        accent("held", x, 0, 1, 48, 48, -48, 48);
        accent("held", x, 0, 2, -48, 48, 48, -48);
    }

    private void theMarginIsCut() {
        // the gain stays 64, since 32 * 128 / 8192 is cut to 0; the tone 0 gets the error 32 by its insult
        int[][] bits = {{4, 2}, {7, 2}, {8, 1}, {15, 1}, {16, 0}, {40, 0}};
        for (int[] row : bits) {
            AccentModems x = new AccentModems();
            x.set(0, 64);
            x.set(1, row[0]);
            x.insult(0, 0, 32);
            check.due("learn with the margin " + row[0], x.learn(0, 1), 28 + row[1]);
            check.due("gain", x.accent(0, 0, 0), 64);
            check.due("bits with the margin " + row[0], x.accent(0, 0, 3), row[1]);
        }
        // 13 * 5 / 4 is 16 and not less than 16; 12 * 5 / 4 is 15; 25 * 5 / 4 is 31, 26 * 5 / 4 is 32
        int[][] insults = {{12, 4}, {13, 3}, {25, 3}, {26, 2}};
        for (int[] row : insults) {
            AccentModems x = new AccentModems();
            x.set(0, 64);
            x.set(1, 5);
            x.insult(0, 0, row[0]);
            x.learn(0, 1);
            check.due("bits with the error " + row[0], x.accent(0, 0, 3), row[1]);
        }
        // the gain becomes 61, and 64 * 61 / 64 is greater than 30 * 8 / 4, which is 60; 128 * 8 / 64 is 16
        AccentModems x = new AccentModems();
        x.insult(1, 2, -30);
        x.learn(1, 1);
        check.due("bits with the gain 61", x.accent(1, 2, 3), 2);
    }

    private void learningForgetsWrongSigns() {
        AccentModems x = new AccentModems();
        x.carry(0, 0, 1);
        x.carry(1, 0, 1);
        x.insult(0, 0, 300);
        x.insult(1, 0, 300);
        x.send(0, 1);
        x.send(1, 1);
        x.learn(0, 1);
        check.due("wrong signs forgotten", x.accent(0, 0, 5), 0);
        check.due("those of the other way stay", x.accent(1, 0, 5), 1);
        check.due("wrong signs so far", x.accent(0, 0, 8), 1);
        check.due("signs so far", x.accent(0, 0, 7), 1);
        check.due("wrong bits so far", x.count(6), 1);
    }

    private void learningKnowsTheSignsBefore() {
        AccentModems x = new AccentModems();
        x.carry(0, 0, 1);
        x.insult(0, 0, 300);
        x.send(0, 1);
        check.due("sent", x.street(0, 0, 5), -128);
        check.due("taken for", x.accent(0, 0, 9), 128);
        x.learn(0, 1);
        check.due("the sign before, as it was", x.accent(0, 0, 10), -128);
        check.due("the sign before in the street", x.street(0, 0, 6), -128);
        check.due("the sign of learning", x.accent(0, 0, 9), x.street(0, 0, 5));
    }

    private void aBeatOfSending() {
        AccentModems x = new AccentModems();
        x.carry(0, 0, 4);
        x.carry(0, 2, 2);
        x.carry(0, 5, 1);
        Check.say(x, "a:b45");
        check.due("send", x.send(0, 1), 0);
        // 1011, 01 and 0 are taken; 00101 are left
        street("sent", x, 0, 5, 112, 0, -64, 0, 0, -128, 0, 0);
        accent("sent", x, 0, 9, 112, 0, -64, 0, 0, -128, 0, 0);
        accent("sent", x, 0, 7, 1, 0, 1, 0, 0, 1, 0, 0);
        accent("sent", x, 0, 8, 0, 0, 0, 0, 0, 0, 0, 0);
        check.due("bits that wait", x.count(2), 5);
        int[] left = {0, 0, 1, 0, 1};
        for (int i = 0; i < 5; i++) {
            check.due("waits(0, " + i + ")", x.waits(0, i), left[i]);
        }
        check.due("had", x.had(0), 0b1011010);
        check.due("bits that came", x.count(4), 7);
        check.due("wrong bits", x.count(6), 0);
        check.due("beats", x.count(0), 1);
        check.due("seed, drawn for tones without bits, too", x.count(1), 486256185);
        check.due("nothing came back", x.count(5), 0);
        check.due("send again", x.send(0, 1), 0);
        street("sent again", x, 0, 5, -176, 0, 64, 0, 0, -128, 0, 0);
        street("sent again", x, 0, 6, 112, 0, -64, 0, 0, -128, 0, 0);
        accent("sent again", x, 0, 10, 112, 0, -64, 0, 0, -128, 0, 0);
        check.due("had again", x.had(0), 0b10110100010100);
        check.due("saved", x.undo(), 5);
        check.due("had, undone", x.had(0), 0b1011010);
        check.due("waits, undone", x.waits(0, 4), 1);
    }

    private void whereNoneAreLeft() {
        AccentModems x = new AccentModems();
        x.carry(1, 0, 3);
        x.carry(1, 1, 3);
        x.carry(1, 7, 4);
        Check.say(x, "b:f");
        check.due("send", x.send(1, 1), 0);
        // 111, 1(00) and (0000)
        street("filled in", x, 1, 5, 224, 32, 0, 0, 0, 0, 0, -240);
        check.due("had", x.had(1), 0b1111000000);
        check.due("filled in bits count", x.count(5), 10);
        check.due("none waits", x.count(3), 0);
        x.insult(1, 7, 300);
        check.due("wrong bits that were filled in", x.send(1, 1), 2);
        check.due("a sign with one of them wrong", x.accent(1, 7, 8), 1);
        // -240 + 300 is 60, for which 1001 is taken with 48
        check.due("taken for", x.accent(1, 7, 9), 48);
    }

    private void theNearestSign() {
        // insult, bits, what the sign 0 is taken for: the middle belongs to the lower one
        int[][] rows = {{128, 1, -128}, {129, 1, 128}, {64, 2, -192}, {65, 2, -64}, {192, 2, -64}, {193, 2, 64},
            {32, 3, -224}, {33, 3, -160}, {16, 4, -240}, {17, 4, -208}, {-300, 4, -240}, {300, 1, 128}, {0, 0, 0},
            {300, 0, 0}};
        for (int[] row : rows) {
            AccentModems x = new AccentModems();
            x.carry(0, 6, row[1]);
            x.insult(0, 6, row[0]);
            x.send(0, 1);
            check.due("insult " + row[0] + ", bits " + row[1], x.accent(0, 6, 9), row[2]);
        }
        AccentModems x = new AccentModems();
        x.carry(0, 0, 4);
        for (int i = 0; i < 3; i++) {
            x.insult(0, 0, 300);
        }
        // 0000 is taken for 1111
        check.due("all bits wrong", x.send(0, 1), 4);
        check.due("the highest sign", x.accent(0, 0, 9), 240);
        check.due("wrong bits", x.count(6), 4);
        check.due("one wrong sign", x.accent(0, 0, 8), 1);
        check.due("one wrong sign for shyness", x.accent(0, 0, 5), 1);
        check.due("had what came, not what was sent", x.had(0), 15);
    }

    private void levelsAreCut() {
        // the accent learns the gain 128, so that y is half of x, cut towards 0
        int[][] rows = {{129, -128}, {130, 128}, {127, -128}};
        for (int[] row : rows) {
            AccentModems x = new AccentModems();
            x.set(0, 1);
            x.build(0, 0, 0, 96);
            x.learn(0, 1);
            check.due("gain", x.accent(0, 0, 0), 128);
            x.build(0, 0, 0, 64);
            x.carry(0, 0, 1);
            x.insult(0, 0, row[0]);
            x.send(0, 1);
            check.due("insult " + row[0], x.accent(0, 0, 9), row[1]);
        }
        AccentModems x = new AccentModems();
        x.build(0, 0, 0, 65);
        x.build(0, 0, 1, 1);
        x.carry(0, 0, 1);
        // what comes of -128: -130; then (65 * -128 - 128) / 64 is -132, and 132 below the middle
        x.send(0, 1);
        x.insult(0, 0, 132);
        check.due("in the middle", x.send(0, 1), 0);
        x.insult(0, 0, 133);
        check.due("above the middle", x.send(0, 1), 1);
    }

    private void echoesAreTakenAway() {
        AccentModems x = new AccentModems();
        x.set(0, 2);
        x.learn(0, 2);
        // A1 is 128 and A2 -128 now: an error of 64 makes the gain less by 32, the echoes 32 and -32
        x.insult(0, 0, 64);
        x.learn(0, 1);
        check.due("first echo", x.accent(0, 0, 1), 32);
        check.due("second echo", x.accent(0, 0, 2), -32);
        int gain = x.accent(0, 0, 0);
        check.due("gain", gain, 64 + 32 * x.street(0, 0, 5) / 128);
        x.carry(0, 0, 1);
        x.insult(0, 0, 300);
        x.send(0, 1);
        check.due("taken for", x.accent(0, 0, 9), 128);
        check.due("taken for before", x.accent(0, 0, 10), x.street(0, 0, 6));
        // the echoes are of what was taken: x is r - (32 * 128 - 32 * D2) / 64
        int echo = (32 * 128 - 32 * x.accent(0, 0, 10)) / 64;
        x.insult(0, 0, 128 + echo);
        check.due("in the middle", x.send(0, 1), 0);
        x.undo();
        x.insult(0, 0, 2);
        check.due("above the middle", x.send(0, 1), 1);
    }

    private void tonesBecomeShy() {
        AccentModems x = new AccentModems();
        x.set(2, 2);
        x.carry(0, 0, 2);
        x.insult(0, 0, 300);
        check.due("wrong", x.send(0, 1), 1);
        check.due("not yet", x.accent(0, 0, 3), 2);
        x.insult(0, 0, 300);
        check.due("wrong again", x.send(0, 1), 1);
        check.due("shy", x.accent(0, 0, 3), 1);
        check.due("how often", x.accent(0, 0, 6), 1);
        check.due("how often all did", x.count(10), 1);
        check.due("wrong signs forgotten", x.accent(0, 0, 5), 0);
        check.due("wrong signs so far", x.accent(0, 0, 8), 2);
        check.due("bits", x.count(8), 1);
        x.insult(0, 0, 300);
        x.send(0, 1);
        check.due("wrong signs since it became shy", x.accent(0, 0, 5), 1);
        x.carry(0, 0, 0);
        x.set(2, 1);
        check.due("no bits", x.send(0, 3), 0);
        check.due("not shy without bits", x.accent(0, 0, 6), 1);
        check.due("wrong signs stay", x.accent(0, 0, 5), 1);
        check.due("no signs without bits", x.accent(0, 0, 7), 3);
        x.carry(0, 0, 1);
        check.due("right", x.send(0, 1), 0);
        check.due("shy all the same", x.accent(0, 0, 3), 0);
        check.due("how often now", x.accent(0, 0, 6), 2);
        check.due("signs now", x.accent(0, 0, 7), 4);
        check.due("what was learned stays", x.accent(0, 0, 4), -1);
        // it becomes shy behind the beat, so that the tone takes 2 bits in it and 1 in the next one
        x = new AccentModems();
        x.set(2, 1);
        x.carry(1, 3, 2);
        x.insult(1, 3, 300);
        Check.say(x, "b:3");
        x.send(1, 2);
        check.due("bits taken by a tone that becomes shy", x.count(3), 1);
    }

    private void shyOnTheWayAlone() {
        AccentModems x = new AccentModems();
        x.carry(0, 0, 1);
        x.carry(1, 0, 1);
        x.insult(1, 0, 300);
        x.send(1, 1);
        x.set(2, 1);
        x.send(0, 1);
        check.due("not shy by a beat of the other way", x.accent(1, 0, 3), 1);
        x.learn(0, 1);
        check.due("nor by learning of the other way", x.accent(1, 0, 3), 1);
        x.send(1, 1);
        check.due("shy behind a beat of its way", x.accent(1, 0, 3), 0);
        check.due("how often all did", x.count(10), 1);
    }

    private void forgetting() {
        AccentModems x = Busy.busy();
        x.carry(0, 6, 1);
        for (int i = 0; i < 2; i++) {
            x.insult(0, 6, 300);
        }
        x.send(0, 1);
        check.due("wrong signs", x.accent(0, 6, 5), 1);
        int[][] kept = numbersOf(x);
        int bits = x.count(8);
        int back = x.count(9);
        long other = x.accent(1, 4, 0);
        check.due("forget", x.forget(0), bits);
        accent("forgotten", x, 0, 0, 64, 64, 64, 64, 64, 64, 64, 64);
        for (int what = 1; what <= 5; what++) {
            int due = what == 4 ? -1 : 0;
            accent("forgotten", x, 0, what, due, due, due, due, due, due, due, due);
        }
        check.due("no bits", x.count(8), 0);
        check.due("bits of the other way", x.count(9), back);
        check.due("accent of the other way", x.accent(1, 4, 0), other);
        int[][] now = numbersOf(x);
        for (int i = 0; i < kept.length; i++) {
            for (int j = 0; j < kept[i].length; j++) {
                check.due("number " + j + " of the tone " + i + " stays", now[i][j], kept[i][j]);
            }
        }
        check.due("forget again", x.forget(0), 0);
        x.undo();
        x.undo();
        check.due("undo", x.count(8), bits);
        check.due("undo", x.accent(0, 6, 5), 1);
        for (int way : new int[] {-1, 2, MIN, MAX}) {
            check.dueThrowUnchanged("forget(" + way + ")", x, INDEX, () -> x.forget(way));
        }
    }

    /** What forgetting leaves: the street, what is counted, the signs. */
    private static int[][] numbersOf(AccentModems x) {
        int[][] numbers = new int[9][12];
        for (int tone = 0; tone < 8; tone++) {
            for (int what = 0; what <= 6; what++) {
                numbers[tone][what] = x.street(0, tone, what);
            }
            for (int what = 6; what <= 10; what++) {
                numbers[tone][what + 1] = x.accent(0, tone, what);
            }
        }
        for (int what = 0; what <= 7; what++) {
            numbers[8][what] = x.count(what);
        }
        numbers[8][8] = x.count(10);
        numbers[8][9] = x.count(11);
        numbers[8][10] = (int) x.had(0);
        numbers[8][11] = (int) (x.had(0) >> 32);
        return numbers;
    }

    private void theLatestSixtyBits() {
        AccentModems x = new AccentModems();
        for (int tone = 0; tone < 8; tone++) {
            x.carry(0, tone, 4);
        }
        Check.say(x, "a:123456789abcdef0fedcba98765432100f1e2d3c");
        x.send(0, 1);
        check.due("32 bits", x.had(0), 0x12345678L);
        x.send(0, 1);
        check.due("the latest 60 of 64", x.had(0), 0x23456789abcdef0L);
        x.send(0, 2);
        check.due("the latest 60 of 128", x.had(0), 0xedcba9876543210L);
        x.send(0, 1);
        check.due("the latest 60 of 160", x.had(0), 0x65432100f1e2d3cL);
        check.due("bits that came", x.count(4), 160);
        check.due("the other way", x.had(1), 0);
        Check.say(x, "a:ffffffffffffffffffff");
        x.send(0, 2);
        check.due("60 bits that are 1", x.had(0), (1L << 60) - 1);
        for (int way : new int[] {-1, 2, MIN, MAX}) {
            check.dueThrowUnchanged("had(" + way + ")", x, INDEX, () -> x.had(way));
        }
    }

    private void theLimitOfBeats() {
        AccentModems x = Busy.tired();
        check.due("beats", x.count(0), 5000);
        for (int way = 0; way < 2; way++) {
            int w = way;
            check.dueThrowUnchanged("learn beyond the limit", x, STATE, () -> x.learn(w, 1));
            check.dueThrowUnchanged("send beyond the limit", x, STATE, () -> x.send(w, 1));
            check.dueThrowUnchanged("learn 0 beats", x, ARGUMENT, () -> x.learn(w, 0));
            check.dueThrowUnchanged("send 101 beats", x, ARGUMENT, () -> x.send(w, 101));
        }
        check.dueThrowUnchanged("learn nowhere", x, INDEX, () -> x.learn(2, 1));
        check.dueThrowUnchanged("send nowhere", x, INDEX, () -> x.send(-1, 1));
        x.undo();
        check.due("beats behind undo", x.count(0), 4900);
        check.due("send", x.send(0, 99), 0);
        check.dueThrowUnchanged("learn 2 of 1", x, STATE, () -> x.learn(0, 2));
        check.dueThrowUnchanged("send 100 of 1", x, STATE, () -> x.send(1, 100));
        x.learn(0, 1);
        check.due("beats at the limit", x.count(0), 5000);
    }

    private void wrongWaysAndBeats() {
        AccentModems x = Busy.busy();
        for (int beats : new int[] {0, -1, 101, MIN, MAX}) {
            check.dueThrowUnchanged("learn(0, " + beats + ")", x, ARGUMENT, () -> x.learn(0, beats));
            check.dueThrowUnchanged("send(1, " + beats + ")", x, ARGUMENT, () -> x.send(1, beats));
        }
        for (int way : new int[] {-1, 2, MIN, MAX}) {
            check.dueThrowUnchanged("learn(" + way + ", 1)", x, INDEX, () -> x.learn(way, 1));
            check.dueThrowUnchanged("learn(" + way + ", 0)", x, INDEX, () -> x.learn(way, 0));
            check.dueThrowUnchanged("send(" + way + ", 1)", x, INDEX, () -> x.send(way, 1));
            check.dueThrowUnchanged("send(" + way + ", 101)", x, INDEX, () -> x.send(way, 101));
        }
        int before = x.count(0);
        x.learn(0, 100);
        x.send(0, 100);
        check.due("100 beats each", x.count(0), before + 200);
    }

    private void wrongQuestions() {
        AccentModems x = Busy.busy();
        for (int what : new int[] {-1, 11, MIN, MAX}) {
            check.dueThrowUnchanged("accent(0, 0, " + what + ")", x, ARGUMENT, () -> x.accent(0, 0, what));
            check.dueThrowUnchanged("accent(0, 8, " + what + ")", x, INDEX, () -> x.accent(0, 8, what));
        }
        int[][] nowhere = {{-1, 0}, {2, 0}, {MIN, 7}, {0, -1}, {1, 8}, {0, MAX}};
        for (int[] p : nowhere) {
            check.dueThrowUnchanged("accent nowhere", x, INDEX, () -> x.accent(p[0], p[1], 0));
        }
        for (int what : new int[] {-1, 13, MIN, MAX}) {
            check.dueThrowUnchanged("count(" + what + ")", x, ARGUMENT, () -> x.count(what));
        }
        for (int way = 0; way < 2; way++) {
            int w = way;
            int size = x.count(2 + way);
            check.due("some bits wait", size > 1 ? 1 : 0, 1);
            x.waits(way, size - 1);
            for (int place : new int[] {-1, size, size + 1, 256, MIN, MAX}) {
                check.dueThrowUnchanged("waits(" + way + ", " + place + ")", x, INDEX, () -> x.waits(w, place));
            }
        }
        for (int way : new int[] {-1, 2, MIN, MAX}) {
            check.dueThrowUnchanged("waits(" + way + ", 0)", x, INDEX, () -> x.waits(way, 0));
        }
    }
}
