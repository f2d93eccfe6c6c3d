import java.util.Random;

/** Long runs of random calls (the same ones each time), each answer compared with that of PlainModems. */
public final class RandomRunsTest {
    private static final int CALLS = 500;
    private static final String[] NAMES = {
        "build", "carry", "insult", "set", "learn", "send", "forget", "append", "clearBuffer", "firstError",
        "say", "undo", "street", "accent", "waits", "had", "count", "setting", "sure", "ifSent",
        "ifLearned", "beatsFor", "bestLesson", "hurts", "rightShare", "digest"};
    // how often each of these calls comes, for each kind of run; the last number is how often a text is said
    private static final int[][] KINDS = {
        {20, 6, 6, 4, 6, 12, 1, 4, 1, 4, 1, 4, 4, 12, 4, 4, 8, 2, 6, 4, 4, 4, 2, 4, 4, 1, 20},
        {2, 8, 30, 3, 1, 40, 1, 1, 1, 1, 1, 3, 4, 12, 4, 4, 8, 1, 2, 8, 1, 4, 1, 6, 4, 1, 30},
        {30, 1, 3, 3, 40, 30, 1, 1, 1, 1, 1, 1, 4, 12, 4, 4, 8, 1, 6, 4, 4, 2, 2, 4, 4, 1, 10},
        {4, 4, 4, 4, 4, 4, 4, 60, 2, 20, 6, 30, 4, 4, 4, 4, 4, 4, 4, 4, 4, 4, 1, 4, 4, 1, 10}};

    private final Random random;
    private final Check check;
    private final int run;
    private AccentModems real = new AccentModems();
    private PlainModems plain = new PlainModems();

    private RandomRunsTest(int run, Check check) {
        this.run = run;
        this.random = new Random(run);
        this.check = check;
    }

    public static void main(String[] args) {
        Check check = new Check();
        int runs = args.length > 0 ? Integer.parseInt(args[0]) : 80;
        int first = args.length > 1 ? Integer.parseInt(args[1]) : 0;
        for (int run = first; run < first + runs; run++) {
            new RandomRunsTest(run, check).walk();
        }
        check.end();
    }

    private void walk() {
        int[] weights = KINDS[run % KINDS.length];
        int calls = 0;
        while (calls < CALLS - 62) {
            int call = pick(weights);
            calls += call == NAMES.length ? sayText() : both(call, arguments(call));
        }
        both(25, new int[4]);
    }

    private int pick(int[] weights) {
        int sum = 0;
        for (int weight : weights) {
            sum += weight;
        }
        int left = random.nextInt(sum);
        int call = 0;
        while (left >= weights[call]) {
            left -= weights[call];
            call++;
        }
        return call;
    }

    private int sayText() {
        StringBuilder text = new StringBuilder();
        int messages = 1 + random.nextInt(3);
        for (int i = 0; i < messages; i++) {
            text.append(i > 0 ? ";" : "").append("ab".charAt(random.nextInt(2))).append(':');
            int digits = 1 + random.nextInt(16);
            for (int j = 0; j < digits; j++) {
                text.append("0123456789abcdef".charAt(random.nextInt(16)));
            }
        }
        both(8, new int[4]);
        for (int i = 0; i < text.length(); i++) {
            both(7, new int[] {text.charAt(i), 0, 0, 0});
        }
        both(9, new int[4]);
        both(10, new int[4]);
        return text.length() + 3;
    }

    /** A number of the range, now and then one beside it or far from it. */
    private int near(int least, int greatest) {
        switch (random.nextInt(60)) {
            case 0: return least - 1;
            case 1: return greatest + 1;
            case 2: return random.nextInt();
            case 3: case 4: case 5: return least;
            case 6: case 7: case 8: return greatest;
            default: return least + random.nextInt(greatest - least + 1);
        }
    }

    private int[] arguments(int call) {
        int way = near(0, 1);
        int tone = near(0, 7);
        switch (call) {
            case 0: {
                int what = near(0, 3);
                return new int[] {way, tone, what, what == 0 ? near(16, 96) : what == 3 ? noise() : near(-32, 32)};
            }
            case 1: return new int[] {way, tone, near(0, 4), 0};
            case 2: return new int[] {way, tone, near(-300, 300), 0};
            case 3: {
                int setting = near(0, 2);
                return new int[] {setting, setting == 0 ? near(1, 64) : setting == 1 ? near(4, 40) : near(1, 50), 0, 0};
            }
            case 4: return new int[] {way, beats(), 0, 0};
            case 5: return new int[] {way, beats(), 0, 0};
            case 7: return new int[] {character(), 0, 0, 0};
            case 12: return new int[] {way, tone, near(0, 6), 0};
            case 13: return new int[] {way, tone, near(0, 10), 0};
            case 14: return new int[] {way, near(0, Math.max(0, plain.count(2) - 1)), 0, 0};
            case 16: return new int[] {near(0, 12), 0, 0, 0};
            case 17: return new int[] {near(0, 2), 0, 0, 0};
            case 19: return new int[] {way, beats(), near(0, 2), 0};
            case 20: return new int[] {way, beats(), 0, 0};
            default: return new int[] {way, tone, 0, 0};
        }
    }

    private int noise() {
        return random.nextInt(2) == 0 ? near(0, 60) : random.nextInt(6);
    }

    private int beats() {
        return run % KINDS.length != 2 && random.nextInt(3) > 0 ? 1 + random.nextInt(6) : near(1, 100);
    }

    private int character() {
        return random.nextInt(30) == 0 ? near(33, 126) : "ab::00112;f9c8g".charAt(random.nextInt(15));
    }

    private int both(int call, int[] a) {
        String got = answer(() -> ofReal(call, a));
        String want = answer(() -> ofPlain(call, a));
        check.due("run " + run + " " + NAMES[call] + "(" + a[0] + ", " + a[1] + ", " + a[2] + ", " + a[3] + ") "
                + got + ", plainly " + want, got.equals(want) ? 1 : 0, 1);
        return 1;
    }

    private static String answer(java.util.function.LongSupplier called) {
        try {
            return Long.toString(called.getAsLong());
        } catch (RuntimeException e) {
            return e.getClass().getName();
        }
    }

    private long ofReal(int call, int[] a) {
        AccentModems x = real;
        switch (call) {
            case 0: return x.build(a[0], a[1], a[2], a[3]);
            case 1: return x.carry(a[0], a[1], a[2]);
            case 2: return x.insult(a[0], a[1], a[2]);
            case 3: return x.set(a[0], a[1]);
            case 4: return x.learn(a[0], a[1]);
            case 5: return x.send(a[0], a[1]);
            case 6: return x.forget(a[0]);
            case 7: return x.append(a[0]);
            case 8: return x.clearBuffer();
            case 9: return x.firstError();
            case 10: return x.say();
            case 11: return x.undo();
            case 12: return x.street(a[0], a[1], a[2]);
            case 13: return x.accent(a[0], a[1], a[2]);
            case 14: return x.waits(a[0], a[1]);
            case 15: return x.had(a[0]);
            case 16: return x.count(a[0]);
            case 17: return x.setting(a[0]);
            case 18: return x.sure(a[0], a[1]);
            case 19: return x.ifSent(a[0], a[1], a[2]);
            case 20: return x.ifLearned(a[0], a[1]);
            case 21: return x.beatsFor(a[0]);
            case 22: return x.bestLesson(a[0]);
            case 23: return x.hurts(a[0], a[1]);
            case 24: return Double.doubleToRawLongBits(x.rightShare(a[0]));
            default: return x.digest();
        }
    }

    private long ofPlain(int call, int[] a) {
        PlainModems x = plain;
        switch (call) {
            case 0: return x.build(a[0], a[1], a[2], a[3]);
            case 1: return x.carry(a[0], a[1], a[2]);
            case 2: return x.insult(a[0], a[1], a[2]);
            case 3: return x.set(a[0], a[1]);
            case 4: return x.learn(a[0], a[1]);
            case 5: return x.send(a[0], a[1]);
            case 6: return x.forget(a[0]);
            case 7: return x.append(a[0]);
            case 8: return x.clearBuffer();
            case 9: return x.firstError();
            case 10: return x.say();
            case 11: return x.undo();
            case 12: return x.street(a[0], a[1], a[2]);
            case 13: return x.accent(a[0], a[1], a[2]);
            case 14: return x.waits(a[0], a[1]);
            case 15: return x.had(a[0]);
            case 16: return x.count(a[0]);
            case 17: return x.setting(a[0]);
            case 18: return x.sure(a[0], a[1]);
            case 19: return x.ifSent(a[0], a[1], a[2]);
            case 20: return x.ifLearned(a[0], a[1]);
            case 21: return x.beatsFor(a[0]);
            case 22: return x.bestLesson(a[0]);
            case 23: return x.hurts(a[0], a[1]);
            case 24: return Double.doubleToRawLongBits(x.rightShare(a[0]));
            default: return x.digest();
        }
    }
}
