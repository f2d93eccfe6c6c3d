import java.util.ArrayDeque;
import java.util.ArrayList;
import java.util.Deque;
import java.util.List;
import java.util.regex.Pattern;

/**
 * The document once more, as slowly and plainly as it can be said, to compare AccentModems with:
 * what would be is found by doing it on a copy made anew, and texts are read by regular expressions.
 */
final class PlainModems {
    private static final Pattern ROW = Pattern.compile("[ab]:[0-9a-f]+(;[ab]:[0-9a-f]+)*");
    private static final Pattern BEGINNING =
            Pattern.compile("([ab]:[0-9a-f]+;)*([ab](:[0-9a-f]*)?)?");

    private static final class Memory {
        long seed = 1;
        int beats;
        int[] settings = {8, 8, 3};
        // [way][tone][what], with the numbers that street and accent have for what
        int[][][] street = new int[2][8][7];
        int[][][] accent = new int[2][8][11];
        List<List<Integer>> waiting = List.of(new ArrayList<>(), new ArrayList<>());
        List<List<Integer>> latest = List.of(new ArrayList<>(), new ArrayList<>());
        int[] came = new int[2];
        int[] wrongBits = new int[2];

        Memory copy() {
            Memory m = new Memory();
            m.seed = seed;
            m.beats = beats;
            m.settings = settings.clone();
            m.came = came.clone();
            m.wrongBits = wrongBits.clone();
            for (int w = 0; w < 2; w++) {
                for (int t = 0; t < 8; t++) {
                    m.street[w][t] = street[w][t].clone();
                    m.accent[w][t] = accent[w][t].clone();
                }
                m.waiting.get(w).addAll(waiting.get(w));
                m.latest.get(w).addAll(latest.get(w));
            }
            return m;
        }

        long draw(long m) {
            seed = (1103515245L * seed + 12345L) % 2147483648L;
            return seed / 65536 % m;
        }
    }

    private Memory memory = new Memory();
    private final Deque<Memory> saved = new ArrayDeque<>();
    private String buffer = "";

    PlainModems() {
        for (int w = 0; w < 2; w++) {
            for (int t = 0; t < 8; t++) {
                memory.street[w][t][0] = 64;
                memory.accent[w][t][0] = 64;
                memory.accent[w][t][4] = -1;
            }
        }
    }

    private static void index(boolean fine) {
        if (!fine) {
            throw new IndexOutOfBoundsException();
        }
    }

    private static void argument(boolean fine) {
        if (!fine) {
            throw new IllegalArgumentException();
        }
    }

    private static void state(boolean fine) {
        if (!fine) {
            throw new IllegalStateException();
        }
    }

    private static boolean in(int value, int least, int greatest) {
        return value >= least && value <= greatest;
    }

    private static void place(int way, int tone) {
        index(in(way, 0, 1));
        index(in(tone, 0, 7));
    }

    private void save() {
        saved.addLast(memory.copy());
        if (saved.size() > 6) {
            saved.removeFirst();
        }
    }

    int build(int way, int tone, int what, int value) {
        place(way, tone);
        argument(in(what, 0, 3));
        argument(what == 0 ? in(value, 16, 96) : what == 3 ? in(value, 0, 60) : in(value, -32, 32));
        save();
        int previous = memory.street[way][tone][what];
        memory.street[way][tone][what] = value;
        return previous;
    }

    int carry(int way, int tone, int bits) {
        place(way, tone);
        argument(in(bits, 0, 4));
        save();
        int previous = memory.accent[way][tone][3];
        memory.accent[way][tone][3] = bits;
        return previous;
    }

    int insult(int way, int tone, int by) {
        place(way, tone);
        argument(in(by, -300, 300));
        state(in(memory.street[way][tone][4] + by, -1000, 1000));
        save();
        return memory.street[way][tone][4] += by;
    }

    int set(int setting, int value) {
        index(in(setting, 0, 2));
        argument(setting == 0 ? in(value, 1, 64) : setting == 1 ? in(value, 4, 40) : in(value, 1, 50));
        save();
        int previous = memory.settings[setting];
        memory.settings[setting] = value;
        return previous;
    }

    int learn(int way, int beats) {
        index(in(way, 0, 1));
        argument(in(beats, 1, 100));
        state(memory.beats + beats <= 5000);
        save();
        learnOn(memory, way, beats);
        return bitsOn(memory, way);
    }

    int send(int way, int beats) {
        index(in(way, 0, 1));
        argument(in(beats, 1, 100));
        state(memory.beats + beats <= 5000);
        save();
        return sendOn(memory, way, beats);
    }

    int forget(int way) {
        index(in(way, 0, 1));
        save();
        int previous = bitsOn(memory, way);
        for (int[] a : memory.accent[way]) {
            a[0] = 64;
            a[1] = 0;
            a[2] = 0;
            a[3] = 0;
            a[4] = -1;
            a[5] = 0;
        }
        return previous;
    }

    int append(int code) {
        argument(in(code, 33, 126));
        state(buffer.length() < 60);
        buffer += (char) code;
        return buffer.length();
    }

    int clearBuffer() {
        int previous = buffer.length();
        buffer = "";
        return previous;
    }

    int firstError() {
        int fine = 0;
        while (fine < buffer.length() && BEGINNING.matcher(buffer.substring(0, fine + 1)).matches()) {
            fine++;
        }
        return fine;
    }

    int say() {
        argument(ROW.matcher(buffer).matches());
        List<List<Integer>> said = List.of(new ArrayList<>(), new ArrayList<>());
        for (String message : buffer.split(";")) {
            for (char digit : message.substring(2).toCharArray()) {
                int value = Integer.parseInt("" + digit, 16);
                said.get(message.charAt(0) - 'a')
                        .addAll(List.of(value / 8, value / 4 % 2, value / 2 % 2, value % 2));
            }
        }
        for (int w = 0; w < 2; w++) {
            state(memory.waiting.get(w).size() + said.get(w).size() <= 256);
        }
        save();
        for (int w = 0; w < 2; w++) {
            memory.waiting.get(w).addAll(said.get(w));
        }
        buffer = "";
        return said.get(0).size() + said.get(1).size();
    }

    int undo() {
        state(!saved.isEmpty());
        memory = saved.removeLast();
        return saved.size();
    }

    int street(int way, int tone, int what) {
        place(way, tone);
        argument(in(what, 0, 6));
        return memory.street[way][tone][what];
    }

    int accent(int way, int tone, int what) {
        place(way, tone);
        argument(in(what, 0, 10));
        return memory.accent[way][tone][what];
    }

    int waits(int way, int place) {
        index(in(way, 0, 1));
        index(in(place, 0, memory.waiting.get(way).size() - 1));
        return memory.waiting.get(way).get(place);
    }

    long had(int way) {
        index(in(way, 0, 1));
        long number = 0;
        for (int bit : memory.latest.get(way)) {
            number = 2 * number + bit;
        }
        return number;
    }

    int count(int what) {
        argument(in(what, 0, 12));
        int way = what % 2;
        if (what == 0) {
            return memory.beats;
        } else if (what == 1) {
            return (int) memory.seed;
        } else if (what <= 3) {
            return memory.waiting.get(way).size();
        } else if (what <= 5) {
            return memory.came[way];
        } else if (what <= 7) {
            return memory.wrongBits[way];
        } else if (what <= 9) {
            return bitsOn(memory, way);
        } else if (what == 10) {
            return shiesOn(memory, 0) + shiesOn(memory, 1);
        } else if (what == 12) {
            return saved.size();
        }
        int insulted = 0;
        for (int[][] tones : memory.street) {
            for (int[] tone : tones) {
                if (tone[4] != 0) {
                    insulted++;
                }
            }
        }
        return insulted;
    }

    int setting(int setting) {
        index(in(setting, 0, 2));
        return memory.settings[setting];
    }

    int sure(int way, int tone) {
        place(way, tone);
        int[] s = memory.street[way][tone];
        int[] a = memory.accent[way][tone];
        int most = 0;
        for (int bits = 1; bits <= 4; bits++) {
            int w = 256 - (256 >> bits);
            int number = (Math.abs(s[0] - a[0]) * w + Math.abs(s[1] - a[1]) * 256 + Math.abs(s[2] - a[2]) * 256) / 64
                    + s[3] + 4;
            if (number < (256 >> bits) * a[0] / 64) {
                most = bits;
            }
        }
        return most;
    }

    int ifSent(int way, int beats, int what) {
        index(in(way, 0, 1));
        argument(in(beats, 1, 100));
        argument(in(what, 0, 2));
        Memory then = memory.copy();
        int wrong = sendOn(then, way, beats);
        return what == 0 ? wrong
                : what == 1 ? shiesOn(then, way) - shiesOn(memory, way)
                : then.waiting.get(way).size();
    }

    int ifLearned(int way, int beats) {
        index(in(way, 0, 1));
        argument(in(beats, 1, 100));
        Memory then = memory.copy();
        learnOn(then, way, beats);
        return bitsOn(then, way);
    }

    int beatsFor(int way) {
        index(in(way, 0, 1));
        Memory then = memory.copy();
        int beats = 0;
        while (!then.waiting.get(way).isEmpty()) {
            if (beats == 300) {
                return -1;
            }
            sendOn(then, way, 1);
            beats++;
        }
        return beats;
    }

    int bestLesson(int way) {
        index(in(way, 0, 1));
        int best = 1;
        for (int beats = 2; beats <= 40; beats++) {
            if (ifLearned(way, beats) > ifLearned(way, best)) {
                best = beats;
            }
        }
        return best;
    }

    int hurts(int way, int tone) {
        place(way, tone);
        if (memory.accent[way][tone][3] == 0) {
            return -1;
        }
        for (int size = 0; size <= 300; size++) {
            if (isWrongWith(way, tone, size) || isWrongWith(way, tone, -size)) {
                return size;
            }
        }
        return -1;
    }

    private boolean isWrongWith(int way, int tone, int insult) {
        Memory then = memory.copy();
        then.street[way][tone][4] += insult;
        sendOn(then, way, 1);
        return then.accent[way][tone][8] > memory.accent[way][tone][8];
    }

    double rightShare(int way) {
        index(in(way, 0, 1));
        double came = memory.came[way];
        return came == 0 ? 1.0 : (came - memory.wrongBits[way]) / came;
    }

    long digest() {
        List<Long> values = new ArrayList<>();
        for (int what = 0; what <= 12; what++) {
            values.add((long) count(what));
        }
        for (int i = 0; i < 3; i++) {
            values.add((long) setting(i));
        }
        for (int way = 0; way < 2; way++) {
            for (int tone = 0; tone < 8; tone++) {
                for (int what = 0; what <= 6; what++) {
                    values.add((long) street(way, tone, what));
                }
                for (int what = 0; what <= 10; what++) {
                    values.add((long) accent(way, tone, what));
                }
                values.add((long) sure(way, tone));
                values.add((long) hurts(way, tone));
            }
            for (int bit : memory.waiting.get(way)) {
                values.add((long) bit);
            }
            values.add(had(way));
            for (int what = 0; what <= 2; what++) {
                values.add((long) ifSent(way, 5, what));
            }
            values.add((long) ifLearned(way, 12));
            values.add((long) beatsFor(way));
            values.add((long) bestLesson(way));
            values.add(Double.doubleToLongBits(rightShare(way)));
        }
        values.add((long) buffer.length());
        for (char c : buffer.toCharArray()) {
            values.add((long) c);
        }
        long hash = 2417;
        for (long v : values) {
            hash = 31 * hash + v;
        }
        return hash;
    }

    private static int bitsOn(Memory m, int way) {
        int sum = 0;
        for (int[] a : m.accent[way]) {
            sum += a[3];
        }
        return sum;
    }

    private static int shiesOn(Memory m, int way) {
        int sum = 0;
        for (int[] a : m.accent[way]) {
            sum += a[6];
        }
        return sum;
    }

    private static int amplitude(int v, int bits) {
        return bits == 0 ? 0 : (2 * v + 1 - (1 << bits)) * (256 >> bits);
    }

    /** What comes, with its draw; the insult is gone and the amplitude is the last one behind it. */
    private static int comes(Memory m, int way, int tone, int amplitude) {
        int[] s = m.street[way][tone];
        int r = (s[0] * amplitude + s[1] * s[5] + s[2] * s[6]) / 64 + (int) (m.draw(2 * s[3] + 1) - s[3]) + s[4];
        s[4] = 0;
        s[6] = s[5];
        s[5] = amplitude;
        return r;
    }

    private static void learnOn(Memory m, int way, int beats) {
        List<List<Integer>> sizes = new ArrayList<>();
        for (int t = 0; t < 8; t++) {
            sizes.add(new ArrayList<>());
        }
        for (int beat = 0; beat < beats; beat++) {
            for (int t = 0; t < 8; t++) {
                int[] a = m.accent[way][t];
                int amplitude = m.draw(2) == 1 ? 128 : -128;
                int one = m.street[way][t][5];
                int two = m.street[way][t][6];
                int r = comes(m, way, t, amplitude);
                int error = r - (a[0] * amplitude + a[1] * one + a[2] * two) / 64;
                int slow = 128 * m.settings[0];
                a[0] = Math.max(8, Math.min(128, a[0] + error * amplitude / slow));
                a[1] = Math.max(-48, Math.min(48, a[1] + error * one / slow));
                a[2] = Math.max(-48, Math.min(48, a[2] + error * two / slow));
                a[9] = m.street[way][t][5];
                a[10] = m.street[way][t][6];
                sizes.get(t).add(Math.abs(error));
            }
            m.beats++;
        }
        for (int t = 0; t < 8; t++) {
            int[] a = m.accent[way][t];
            a[4] = 0;
            for (int size : sizes.get(t).subList(Math.max(0, beats - 8), beats)) {
                a[4] = Math.max(a[4], size);
            }
            a[3] = 0;
            for (int bits = 1; bits <= 4; bits++) {
                if (a[4] * m.settings[1] / 4 < (256 >> bits) * a[0] / 64) {
                    a[3] = bits;
                }
            }
            a[5] = 0;
        }
    }

    private static int sendOn(Memory m, int way, int beats) {
        int wrong = 0;
        for (int beat = 0; beat < beats; beat++) {
            for (int t = 0; t < 8; t++) {
                wrong += sendTone(m, way, t);
            }
            for (int[] a : m.accent[way]) {
                if (a[3] > 0 && a[5] >= m.settings[2]) {
                    a[3]--;
                    a[5] = 0;
                    a[6]++;
                }
            }
            m.beats++;
        }
        m.wrongBits[way] += wrong;
        return wrong;
    }

    private static int sendTone(Memory m, int way, int t) {
        int[] a = m.accent[way][t];
        int bits = a[3];
        int[] sent = new int[bits];
        int v = 0;
        for (int i = 0; i < bits; i++) {
            sent[i] = m.waiting.get(way).isEmpty() ? 0 : m.waiting.get(way).remove(0);
            v = 2 * v + sent[i];
        }
        int r = comes(m, way, t, amplitude(v, bits));
        int x = r - (a[1] * a[9] + a[2] * a[10]) / 64;
        int y = x * 64 / a[0];
        int heard = 0;
        for (int u = 1; u < 1 << bits; u++) {
            if (Math.abs(y - amplitude(u, bits)) < Math.abs(y - amplitude(heard, bits))) {
                heard = u;
            }
        }
        a[10] = a[9];
        a[9] = amplitude(heard, bits);
        int wrong = 0;
        for (int i = 0; i < bits; i++) {
            int bit = heard >> (bits - 1 - i) & 1;
            m.came[way]++;
            m.latest.get(way).add(bit);
            if (m.latest.get(way).size() > 60) {
                m.latest.get(way).remove(0);
            }
            wrong += bit != sent[i] ? 1 : 0;
        }
        a[7] += bits > 0 ? 1 : 0;
        a[8] += wrong > 0 ? 1 : 0;
        a[5] += wrong > 0 ? 1 : 0;
        return wrong;
    }
}
