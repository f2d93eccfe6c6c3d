/** Two modems that learn the accent of each other over a street of echoes. */
public final class AccentModems {
    public static final int NONE = -1;

    private static final int WAYS = 2;
    private static final int TONES = 8;
    private static final int MOST_BITS = 4;
    private static final int FULL_SIZE = 256;
    private static final int LESSON_SIZE = 128;
    private static final int LESSON_TAIL = 8;
    private static final int MOST_WAITING = 256;
    private static final int RING_MASK = MOST_WAITING - 1;
    private static final int MOST_BEATS = 5000;
    private static final int MOST_BEATS_AT_ONCE = 100;
    private static final int MOST_BEATS_AHEAD = 300;
    private static final int LONGEST_LESSON_AHEAD = 40;
    private static final int MOST_INSULT_AT_ONCE = 300;
    private static final int MOST_INSULT = 1000;
    private static final int MOST_SAVED = 6;
    private static final int MOST_CHARACTERS = 60;
    private static final int BITS_A_DIGIT = 4;
    private static final long LATEST_60 = (1L << 60) - 1;

    private static final int SETTINGS = 3;
    private static final int PATIENCE = 0;
    private static final int MARGIN = 1;
    private static final int SHY_AT = 2;
    private static final int[] LEAST_SETTING = {1, 4, 1};
    private static final int[] GREATEST_SETTING = {64, 40, 50};

    private static final int STREET_NUMBERS = 4;
    private static final int[] LEAST_STREET_NUMBER = {16, -32, -32, 0};
    private static final int[] GREATEST_STREET_NUMBER = {96, 32, 32, 60};

    private static final int AT_WAY = 0;
    private static final int AT_COLON = 1;
    private static final int AT_FIRST_DIGIT = 2;
    private static final int BEHIND_DIGIT = 3;
    private static final int AT_ERROR = 4;

    private final State now = new State();
    private final State trial = new State();
    private final State[] saved = new State[MOST_SAVED];
    private final Lesson lesson = new Lesson();
    private final Text text = new Text();
    private int savedCount;

    public AccentModems() {
        for (int i = 0; i < MOST_SAVED; i++) {
            saved[i] = new State();
        }
    }

    // ---- the street, settings

    public int build(int way, int tone, int what, int value)
            throws IndexOutOfBoundsException, IllegalArgumentException {
        Tone built = toneOf(way, tone);
        checkStreetNumber(what, value);
        save();
        int previous = built.streetNumber(what);
        built.setStreetNumber(what, value);
        return previous;
    }

    public int carry(int way, int tone, int bits) throws IndexOutOfBoundsException, IllegalArgumentException {
        Tone carrier = toneOf(way, tone);
        if (bits < 0 || bits > MOST_BITS) {
            throw new IllegalArgumentException("bits is not 0 to 4");
        }
        save();
        int previous = carrier.bits;
        carrier.bits = bits;
        return previous;
    }

    public int insult(int way, int tone, int by)
            throws IndexOutOfBoundsException, IllegalArgumentException, IllegalStateException {
        Tone insulted = toneOf(way, tone);
        if (by < -MOST_INSULT_AT_ONCE || by > MOST_INSULT_AT_ONCE) {
            throw new IllegalArgumentException("by is not -300 to 300");
        }
        int sum = insulted.insult + by;
        if (sum < -MOST_INSULT || sum > MOST_INSULT) {
            throw new IllegalStateException("the insult would not be -1000 to 1000");
        }
        save();
        insulted.insult = sum;
        return sum;
    }

    public int set(int setting, int value) throws IndexOutOfBoundsException, IllegalArgumentException {
        checkSetting(setting);
        if (value < LEAST_SETTING[setting] || value > GREATEST_SETTING[setting]) {
            throw new IllegalArgumentException("value is out of the range of the setting");
        }
        save();
        int previous = now.settings[setting];
        now.settings[setting] = value;
        return previous;
    }

    // ---- learning, sending

    public int learn(int way, int beats)
            throws IndexOutOfBoundsException, IllegalArgumentException, IllegalStateException {
        Way learner = wayOf(way);
        checkBeats(beats);
        checkBeatsLeft(beats);
        save();
        now.takeLesson(learner, beats, lesson);
        return learner.bits();
    }

    public int send(int way, int beats)
            throws IndexOutOfBoundsException, IllegalArgumentException, IllegalStateException {
        Way sender = wayOf(way);
        checkBeats(beats);
        checkBeatsLeft(beats);
        save();
        return now.sendBeats(sender, beats);
    }

    public int forget(int way) throws IndexOutOfBoundsException {
        Way forgetful = wayOf(way);
        save();
        int previous = forgetful.bits();
        for (int i = 0; i < TONES; i++) {
            forgetful.tones[i].loseAccent();
        }
        return previous;
    }

    // ---- texts

    public int append(int code) throws IllegalArgumentException, IllegalStateException {
        if (code < 33 || code > 126) {
            throw new IllegalArgumentException("code is not 33 to 126");
        }
        if (text.length >= MOST_CHARACTERS) {
            throw new IllegalStateException("the buffer is full");
        }
        text.characters[text.length] = (char) code;
        text.length++;
        return text.length;
    }

    public int clearBuffer() {
        int previous = text.length;
        text.length = 0;
        return previous;
    }

    public int firstError() {
        return text.errorPlace();
    }

    public int say() throws IllegalArgumentException, IllegalStateException {
        if (!text.isComplete()) {
            throw new IllegalArgumentException("the buffer is not a complete row of messages");
        }
        int there = text.bitsFor(0);
        int back = text.bitsFor(1);
        if (now.there.waiting.size + there > MOST_WAITING || now.back.waiting.size + back > MOST_WAITING) {
            throw new IllegalStateException("more than 256 bits would wait on a way");
        }
        save();
        text.putBits(now);
        text.length = 0;
        return there + back;
    }

    public int undo() throws IllegalStateException {
        if (savedCount < 1 || savedCount > MOST_SAVED) {
            throw new IllegalStateException("there is no saved state");
        }
        savedCount--;
        now.copyFrom(saved[savedCount]);
        return savedCount;
    }

    // ---- what there is

    public int street(int way, int tone, int what) throws IndexOutOfBoundsException, IllegalArgumentException {
        Tone asked = toneOf(way, tone);
        if (what < 0 || what > 6) {
            throw new IllegalArgumentException("what is not 0 to 6");
        }
        return asked.streetNumber(what);
    }

    public int accent(int way, int tone, int what) throws IndexOutOfBoundsException, IllegalArgumentException {
        Tone asked = toneOf(way, tone);
        if (what < 0 || what > 10) {
            throw new IllegalArgumentException("what is not 0 to 10");
        }
        return asked.accentNumber(what);
    }

    public int waits(int way, int place) throws IndexOutOfBoundsException {
        WaitingBits waiting = wayOf(way).waiting;
        if (place < 0 || place >= waiting.size) {
            throw new IndexOutOfBoundsException("there are not so many bits");
        }
        return waiting.bitAt(place);
    }

    public long had(int way) throws IndexOutOfBoundsException {
        return wayOf(way).latest;
    }

    public int count(int what) throws IllegalArgumentException {
        switch (what) {
            case 0: return now.beats;
            case 1: return now.seed;
            case 2: return now.there.waiting.size;
            case 3: return now.back.waiting.size;
            case 4: return now.there.came;
            case 5: return now.back.came;
            case 6: return now.there.wrong;
            case 7: return now.back.wrong;
            case 8: return now.there.bits();
            case 9: return now.back.bits();
            case 10: return now.there.shies() + now.back.shies();
            case 11: return now.there.insulted() + now.back.insulted();
            case 12: return savedCount;
            default: throw new IllegalArgumentException("what is not 0 to 12");
        }
    }

    public int setting(int setting) throws IndexOutOfBoundsException {
        checkSetting(setting);
        return now.settings[setting];
    }

    // ---- what would be

    public int sure(int way, int tone) throws IndexOutOfBoundsException {
        return toneOf(way, tone).sureBits();
    }

    public int ifSent(int way, int beats, int what) throws IndexOutOfBoundsException, IllegalArgumentException {
        wayOf(way);
        checkBeats(beats);
        if (what < 0 || what > 2) {
            throw new IllegalArgumentException("what is not 0 to 2");
        }
        Way sender = trial.copyWayFrom(now, way);
        int shiesBefore = sender.shies();
        int wrong = trial.sendBeats(sender, beats);
        if (what == 0) {
            return wrong;
        }
        return what == 1 ? sender.shies() - shiesBefore : sender.waiting.size;
    }

    public int ifLearned(int way, int beats) throws IndexOutOfBoundsException, IllegalArgumentException {
        wayOf(way);
        checkBeats(beats);
        Way learner = trial.copyWayFrom(now, way);
        trial.takeLesson(learner, beats, lesson);
        return learner.bits();
    }

    public int beatsFor(int way) throws IndexOutOfBoundsException {
        wayOf(way);
        Way sender = trial.copyWayFrom(now, way);
        for (int beats = 0; beats <= MOST_BEATS_AHEAD; beats++) {
            if (sender.waiting.size == 0) {
                return beats;
            }
            trial.sendBeats(sender, 1);
        }
        return NONE;
    }

    public int bestLesson(int way) throws IndexOutOfBoundsException {
        wayOf(way);
        Way learner = trial.copyWayFrom(now, way);
        int best = 1;
        int mostBits = NONE;
        lesson.begin();
        for (int beats = 1; beats <= LONGEST_LESSON_AHEAD; beats++) {
            trial.learnBeat(learner, lesson);
            int bits = trial.bitsBehind(learner, lesson);
            if (bits > mostBits) {
                mostBits = bits;
                best = beats;
            }
        }
        return best;
    }

    public int hurts(int way, int tone) throws IndexOutOfBoundsException {
        if (toneOf(way, tone).bits == 0) {
            return NONE;
        }
        Way sender = trial.copyWayFrom(now, way);
        for (int i = 0; i < tone; i++) {
            trial.sendSign(sender, sender.tones[i]);
        }
        return trial.leastHurt(sender, sender.tones[tone]);
    }

    public double rightShare(int way) throws IndexOutOfBoundsException {
        Way asked = wayOf(way);
        return asked.came > 0 ? (double) (asked.came - asked.wrong) / (double) asked.came : 1.0;
    }

    public long digest() {
        long hash = 2417;
        for (int what = 0; what <= 12; what++) {
            hash = 31 * hash + count(what);
        }
        for (int i = 0; i < SETTINGS; i++) {
            hash = 31 * hash + now.settings[i];
        }
        for (int way = 0; way < WAYS; way++) {
            for (int tone = 0; tone < TONES; tone++) {
                hash = digestOfTone(hash, way, tone);
            }
            hash = digestOfWay(hash, way);
        }
        hash = 31 * hash + text.length;
        for (int i = 0; i < text.length && i < MOST_CHARACTERS; i++) {
            hash = 31 * hash + text.characters[i];
        }
        return hash;
    }

    // ---- parts of the calls above

    private long digestOfTone(long start, int way, int tone) {
        long hash = start;
        for (int what = 0; what <= 6; what++) {
            hash = 31 * hash + street(way, tone, what);
        }
        for (int what = 0; what <= 10; what++) {
            hash = 31 * hash + accent(way, tone, what);
        }
        hash = 31 * hash + sure(way, tone);
        return 31 * hash + hurts(way, tone);
    }

    private long digestOfWay(long start, int way) {
        long hash = start;
        WaitingBits waiting = now.wayAt(way).waiting;
        for (int place = 0; place < waiting.size; place++) {
            hash = 31 * hash + waiting.bitAt(place);
        }
        hash = 31 * hash + had(way);
        for (int what = 0; what <= 2; what++) {
            hash = 31 * hash + ifSent(way, 5, what);
        }
        hash = 31 * hash + ifLearned(way, 12);
        hash = 31 * hash + beatsFor(way);
        hash = 31 * hash + bestLesson(way);
        return 31 * hash + bitsOfShare(rightShare(way));
    }

    /** As Double.doubleToLongBits, which LANGUAGE.md does not list, for a share of 0 to 1. */
    private static long bitsOfShare(double share) {
        if (share <= 0.0) {
            return 0L;
        }
        double scaled = share;
        long exponent = 1023;
        for (int i = 0; i < 1022 && scaled < 1.0; i++) {
            scaled = scaled * 2.0;
            exponent--;
        }
        return (exponent << 52) + (long) ((scaled - 1.0) * (double) (1L << 52));
    }

    private Way wayOf(int way) {
        if (way < 0 || way >= WAYS) {
            throw new IndexOutOfBoundsException("there is no such way");
        }
        return now.wayAt(way);
    }

    private Tone toneOf(int way, int tone) {
        Way asked = wayOf(way);
        if (tone < 0 || tone >= TONES) {
            throw new IndexOutOfBoundsException("there is no such tone");
        }
        return asked.tones[tone];
    }

    private static void checkStreetNumber(int what, int value) {
        if (what < 0 || what >= STREET_NUMBERS) {
            throw new IllegalArgumentException("what is not 0 to 3");
        }
        if (value < LEAST_STREET_NUMBER[what] || value > GREATEST_STREET_NUMBER[what]) {
            throw new IllegalArgumentException("value is out of range");
        }
    }

    private static void checkSetting(int setting) {
        if (setting < 0 || setting >= SETTINGS) {
            throw new IndexOutOfBoundsException("there is no such setting");
        }
    }

    private static void checkBeats(int beats) {
        if (beats < 1 || beats > MOST_BEATS_AT_ONCE) {
            throw new IllegalArgumentException("beats is not 1 to 100");
        }
    }

    private void checkBeatsLeft(int beats) {
        if (now.beats + beats > MOST_BEATS) {
            throw new IllegalStateException("there would be more than 5000 beats");
        }
    }

    private void save() {
        if (savedCount >= MOST_SAVED) {
            dropOldest();
        }
        saved[savedCount].copyFrom(now);
        savedCount++;
    }

    /** The dropped state goes to the end of the row, so that it is used again and none is made anew. */
    private void dropOldest() {
        State oldest = saved[0];
        for (int i = 1; i < MOST_SAVED; i++) {
            saved[i - 1] = saved[i];
        }
        saved[MOST_SAVED - 1] = oldest;
        savedCount = MOST_SAVED - 1;
    }

    /** All that undo brings back. */
    private static final class State {
        final Way there = new Way();
        final Way back = new Way();
        final int[] settings = {8, 8, 3};
        int seed = 1;
        int beats;

        Way wayAt(int way) {
            return way == 0 ? there : back;
        }

        void copyFrom(State other) {
            there.copyFrom(other.there);
            back.copyFrom(other.back);
            copyCommonFrom(other);
        }

        /** Enough for a trial: what is done on a way never asks for the other one. */
        Way copyWayFrom(State other, int way) {
            Way copy = wayAt(way);
            copy.copyFrom(other.wayAt(way));
            copyCommonFrom(other);
            return copy;
        }

        void copyCommonFrom(State other) {
            System.arraycopy(other.settings, 0, settings, 0, SETTINGS);
            seed = other.seed;
            beats = other.beats;
        }

        int draw(int m) {
            seed = (int) ((1103515245L * seed + 12345L) % 2147483648L);
            return m > 0 ? seed / 65536 % m : 0;
        }

        int drawNoise(Tone tone) {
            return draw(2 * tone.noise + 1) - tone.noise;
        }

        int sendBeats(Way way, int beatsToSend) {
            int wrongBits = 0;
            for (int beat = 0; beat < beatsToSend; beat++) {
                for (int i = 0; i < TONES; i++) {
                    wrongBits += sendSign(way, way.tones[i]);
                }
                for (int i = 0; i < TONES; i++) {
                    way.tones[i].becomeShyAt(settings[SHY_AT]);
                }
                beats++;
            }
            return wrongBits;
        }

        int sendSign(Way way, Tone tone) {
            int sent = way.waiting.take(tone.bits);
            int amplitude = tone.amplitudeOf(sent);
            int heard = tone.decide(tone.arriving(amplitude, drawNoise(tone)));
            int wrongBits = Integer.bitCount(sent ^ heard);
            tone.pass(amplitude, tone.amplitudeOf(heard));
            tone.countSign(wrongBits > 0);
            way.receive(heard, tone.bits, wrongBits);
            return wrongBits;
        }

        void takeLesson(Way way, int beatsToLearn, Lesson lesson) {
            lesson.begin();
            for (int i = 0; i < beatsToLearn; i++) {
                learnBeat(way, lesson);
            }
            for (int i = 0; i < TONES; i++) {
                way.tones[i].endLesson(lesson.worstOf(i), settings[MARGIN]);
            }
        }

        void learnBeat(Way way, Lesson lesson) {
            for (int i = 0; i < TONES; i++) {
                Tone tone = way.tones[i];
                int amplitude = draw(2) == 1 ? LESSON_SIZE : -LESSON_SIZE;
                int error = tone.arriving(amplitude, drawNoise(tone)) - tone.expected(amplitude);
                tone.improve(error, amplitude, settings[PATIENCE]);
                tone.pass(amplitude, amplitude);
                tone.knowSignBefore();
                lesson.note(i, error);
            }
            lesson.beats++;
            beats++;
        }

        /** How many bits the way would carry if the lesson ended now. */
        int bitsBehind(Way way, Lesson lesson) {
            int bits = 0;
            for (int i = 0; i < TONES; i++) {
                bits += way.tones[i].bitsFor(lesson.worstOf(i), settings[MARGIN]);
            }
            return bits;
        }

        /** The least size of an insult that makes the tone's sign wrong; the tones before it have sent theirs. */
        int leastHurt(Way way, Tone tone) {
            int sent = way.waiting.take(tone.bits);
            int arriving = tone.arriving(tone.amplitudeOf(sent), drawNoise(tone));
            for (int size = 0; size <= MOST_INSULT_AT_ONCE; size++) {
                if (tone.decide(arriving + size) != sent || tone.decide(arriving - size) != sent) {
                    return size;
                }
            }
            return NONE;
        }
    }

    /** One way of the street: its tones, the bits that wait, and what came of the bits that were sent. */
    private static final class Way {
        final Tone[] tones = new Tone[TONES];
        final WaitingBits waiting = new WaitingBits();
        long latest;
        int came;
        int wrong;

        Way() {
            for (int i = 0; i < TONES; i++) {
                tones[i] = new Tone();
            }
        }

        void copyFrom(Way other) {
            for (int i = 0; i < TONES; i++) {
                tones[i].copyFrom(other.tones[i]);
            }
            waiting.copyFrom(other.waiting);
            latest = other.latest;
            came = other.came;
            wrong = other.wrong;
        }

        void receive(int sign, int bits, int wrongBits) {
            latest = (latest << bits | sign) & LATEST_60;
            came += bits;
            wrong += wrongBits;
        }

        int bits() {
            int sum = 0;
            for (int i = 0; i < TONES; i++) {
                sum += tones[i].bits;
            }
            return sum;
        }

        int shies() {
            int sum = 0;
            for (int i = 0; i < TONES; i++) {
                sum += tones[i].shies;
            }
            return sum;
        }

        int insulted() {
            int sum = 0;
            for (int i = 0; i < TONES; i++) {
                sum += tones[i].insult != 0 ? 1 : 0;
            }
            return sum;
        }
    }

    /** One tone of a way: the street under it, and the accent that the modem that hears has for it. */
    private static final class Tone {
        int gain = 64;
        int echo1;
        int echo2;
        int noise;
        int insult;
        int last;
        int before;

        int accentGain = 64;
        int accentEcho1;
        int accentEcho2;
        int bits;
        int worst = NONE;
        int wrongsToShy;
        int shies;
        int signs;
        int wrongSigns;
        int taken;
        int takenBefore;

        void copyFrom(Tone other) {
            gain = other.gain;
            echo1 = other.echo1;
            echo2 = other.echo2;
            noise = other.noise;
            insult = other.insult;
            last = other.last;
            before = other.before;
            accentGain = other.accentGain;
            accentEcho1 = other.accentEcho1;
            accentEcho2 = other.accentEcho2;
            bits = other.bits;
            worst = other.worst;
            wrongsToShy = other.wrongsToShy;
            shies = other.shies;
            signs = other.signs;
            wrongSigns = other.wrongSigns;
            taken = other.taken;
            takenBefore = other.takenBefore;
        }

        int streetNumber(int what) {
            switch (what) {
                case 0: return gain;
                case 1: return echo1;
                case 2: return echo2;
                case 3: return noise;
                case 4: return insult;
                case 5: return last;
                default: return before;
            }
        }

        void setStreetNumber(int what, int value) {
            switch (what) {
                case 0: gain = value; break;
                case 1: echo1 = value; break;
                case 2: echo2 = value; break;
                default: noise = value; break;
            }
        }

        int accentNumber(int what) {
            switch (what) {
                case 0: return accentGain;
                case 1: return accentEcho1;
                case 2: return accentEcho2;
                case 3: return bits;
                case 4: return worst;
                case 5: return wrongsToShy;
                case 6: return shies;
                case 7: return signs;
                case 8: return wrongSigns;
                case 9: return taken;
                default: return takenBefore;
            }
        }

        /** With 0 bits the sign 0 has the amplitude 0 by the same rule. */
        int amplitudeOf(int sign) {
            return (2 * sign + 1 - (1 << bits)) * (FULL_SIZE >> bits);
        }

        int arriving(int amplitude, int noiseNow) {
            return (gain * amplitude + echo1 * last + echo2 * before) / 64 + noiseNow + insult;
        }

        int expected(int amplitude) {
            return (accentGain * amplitude + accentEcho1 * last + accentEcho2 * before) / 64;
        }

        /**
         * The amplitudes stand 512 shifted right by the bits apart, the lowest one half of that above -256:
         * so the middle above the sign v is (v + 1) of these steps above -256, and belongs to v.
         */
        int decide(int arriving) {
            int freed = arriving - (accentEcho1 * taken + accentEcho2 * takenBefore) / 64;
            int level = accentGain > 0 ? freed * 64 / accentGain : 0;
            int sign = (level + FULL_SIZE - 1) >> (9 - bits);
            return Math.max(0, Math.min(sign, (1 << bits) - 1));
        }

        void pass(int amplitude, int amplitudeTaken) {
            insult = 0;
            before = last;
            last = amplitude;
            takenBefore = taken;
            taken = amplitudeTaken;
        }

        /** In a lesson the modem that hears learns of the sign before, too, what it really was. */
        void knowSignBefore() {
            takenBefore = before;
        }

        void countSign(boolean isWrong) {
            if (bits > 0) {
                signs++;
            }
            if (isWrong) {
                wrongSigns++;
                wrongsToShy++;
            }
        }

        void becomeShyAt(int wrongsAllowed) {
            if (bits > 0 && wrongsToShy >= wrongsAllowed) {
                bits--;
                shies++;
                wrongsToShy = 0;
            }
        }

        void improve(int error, int amplitude, int patience) {
            accentGain = held(accentGain + step(error * amplitude, patience), 8, 128);
            accentEcho1 = held(accentEcho1 + step(error * last, patience), -48, 48);
            accentEcho2 = held(accentEcho2 + step(error * before, patience), -48, 48);
        }

        static int step(int product, int patience) {
            return patience > 0 ? product / (128 * patience) : 0;
        }

        static int held(int value, int least, int greatest) {
            if (value < least) {
                return least;
            }
            return value > greatest ? greatest : value;
        }

        void endLesson(int worstError, int margin) {
            worst = worstError;
            bits = bitsFor(worstError, margin);
            wrongsToShy = 0;
        }

        /** The more bits, the less room a sign has: so the search goes down from the most bits. */
        int bitsFor(int worstError, int margin) {
            int disturbance = worstError * margin / 4;
            for (int many = MOST_BITS; many > 0; many--) {
                if (disturbance < roomWith(many)) {
                    return many;
                }
            }
            return 0;
        }

        int roomWith(int many) {
            return (FULL_SIZE >> many) * accentGain / 64;
        }

        int sureBits() {
            for (int many = MOST_BITS; many > 0; many--) {
                if (misheardWith(many) + noise + 4 < roomWith(many)) {
                    return many;
                }
            }
            return 0;
        }

        int misheardWith(int many) {
            int greatestAmplitude = FULL_SIZE - (FULL_SIZE >> many);
            int echoes = Math.abs(echo1 - accentEcho1) + Math.abs(echo2 - accentEcho2);
            return (Math.abs(gain - accentGain) * greatestAmplitude + echoes * FULL_SIZE) / 64;
        }

        void loseAccent() {
            accentGain = 64;
            accentEcho1 = 0;
            accentEcho2 = 0;
            bits = 0;
            worst = NONE;
            wrongsToShy = 0;
        }
    }

    /** The bits that wait on a way, in a ring, so that taking one moves no other. */
    private static final class WaitingBits {
        final int[] ring = new int[MOST_WAITING];
        int start;
        int size;

        void copyFrom(WaitingBits other) {
            System.arraycopy(other.ring, 0, ring, 0, MOST_WAITING);
            start = other.start;
            size = other.size;
        }

        int bitAt(int place) {
            return ring[(start + place) & RING_MASK];
        }

        void put(int bit) {
            if (size < MOST_WAITING) {
                ring[(start + size) & RING_MASK] = bit;
                size++;
            }
        }

        void putDigit(int digit) {
            for (int shift = BITS_A_DIGIT - 1; shift >= 0; shift--) {
                put(digit >> shift & 1);
            }
        }

        int take(int many) {
            int sign = 0;
            for (int i = 0; i < many; i++) {
                sign = 2 * sign;
                if (size > 0) {
                    sign += bitAt(0);
                    start = (start + 1) & RING_MASK;
                    size--;
                }
            }
            return sign;
        }
    }

    /** The sizes of the latest errors of a lesson: a ring of eight for each tone. */
    private static final class Lesson {
        final int[] sizes = new int[TONES * LESSON_TAIL];
        int beats;

        void begin() {
            beats = 0;
            for (int i = 0; i < TONES * LESSON_TAIL; i++) {
                sizes[i] = 0;
            }
        }

        void note(int tone, int error) {
            int place = tone * LESSON_TAIL + Math.floorMod(beats, LESSON_TAIL);
            if (place >= 0 && place < TONES * LESSON_TAIL) {
                sizes[place] = Math.abs(error);
            }
        }

        int worstOf(int tone) {
            int worst = 0;
            for (int i = 0; i < LESSON_TAIL; i++) {
                int place = tone * LESSON_TAIL + i;
                if (place >= 0 && place < TONES * LESSON_TAIL) {
                    worst = Math.max(worst, sizes[place]);
                }
            }
            return worst;
        }
    }

    /** The buffer, read as a row of messages. */
    private static final class Text {
        final char[] characters = new char[MOST_CHARACTERS];
        int length;

        static int next(int place, char c) {
            switch (place) {
                case AT_WAY: return c == 'a' || c == 'b' ? AT_COLON : AT_ERROR;
                case AT_COLON: return c == ':' ? AT_FIRST_DIGIT : AT_ERROR;
                case AT_FIRST_DIGIT: return behindDigit(c);
                case BEHIND_DIGIT: return c == ';' ? AT_WAY : behindDigit(c);
                default: return AT_ERROR;
            }
        }

        static int behindDigit(char c) {
            return digitOf(c) == NONE ? AT_ERROR : BEHIND_DIGIT;
        }

        static int digitOf(char c) {
            if (c >= '0' && c <= '9') {
                return c - '0';
            }
            return c >= 'a' && c <= 'f' ? c - 'a' + 10 : NONE;
        }

        int errorPlace() {
            int place = AT_WAY;
            for (int i = 0; i < length && i < MOST_CHARACTERS; i++) {
                place = next(place, characters[i]);
                if (place == AT_ERROR) {
                    return i;
                }
            }
            return length;
        }

        boolean isComplete() {
            int place = AT_WAY;
            for (int i = 0; i < length && i < MOST_CHARACTERS; i++) {
                place = next(place, characters[i]);
            }
            return place == BEHIND_DIGIT;
        }

        int bitsFor(int way) {
            int place = AT_WAY;
            int wayNow = 0;
            int bits = 0;
            for (int i = 0; i < length && i < MOST_CHARACTERS; i++) {
                char c = characters[i];
                wayNow = place == AT_WAY ? c - 'a' : wayNow;
                place = next(place, c);
                bits += place == BEHIND_DIGIT && wayNow == way ? BITS_A_DIGIT : 0;
            }
            return bits;
        }

        void putBits(State state) {
            int place = AT_WAY;
            int wayNow = 0;
            for (int i = 0; i < length && i < MOST_CHARACTERS; i++) {
                char c = characters[i];
                wayNow = place == AT_WAY ? c - 'a' : wayNow;
                place = next(place, c);
                if (place == BEHIND_DIGIT) {
                    state.wayAt(wayNow).waiting.putDigit(digitOf(c));
                }
            }
        }
    }
}
