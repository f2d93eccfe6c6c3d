import java.util.ArrayList;
import java.util.List;
import java.util.function.Supplier;

/** The digest put together from the other answers, as the document lists them. */
final class Digest {
    private Digest() {
    }

    private static void add(List<Long> values, long value) {
        values.add(value);
    }

    private static void addWaitingBits(List<Long> values, Supplier<AccentModems> state, int way) {
        AccentModems x = state.get();
        int size = x.count(2 + way);
        for (int place = 0; place < size; place++) {
            x = place % 128 == 0 ? state.get() : x;
            add(values, x.waits(way, place));
        }
    }

    /** The values of the document's list, each part told by an object of its own. */
    static List<Long> valuesOf(Supplier<AccentModems> state, String buffer) {
        List<Long> values = new ArrayList<>();
        AccentModems common = state.get();
        for (int what = 0; what <= 12; what++) {
            add(values, common.count(what));
        }
        for (int setting = 0; setting <= 2; setting++) {
            add(values, common.setting(setting));
        }
        for (int way = 0; way < 2; way++) {
            AccentModems x = state.get();
            for (int tone = 0; tone < 8; tone++) {
                for (int what = 0; what <= 6; what++) {
                    add(values, x.street(way, tone, what));
                }
                for (int what = 0; what <= 10; what++) {
                    add(values, x.accent(way, tone, what));
                }
                add(values, x.sure(way, tone));
                add(values, x.hurts(way, tone));
            }
            addWaitingBits(values, state, way);
            add(values, x.had(way));
            for (int what = 0; what <= 2; what++) {
                add(values, x.ifSent(way, 5, what));
            }
            add(values, x.ifLearned(way, 12));
            add(values, x.beatsFor(way));
            add(values, x.bestLesson(way));
            add(values, Double.doubleToLongBits(x.rightShare(way)));
        }
        add(values, buffer.length());
        for (char c : buffer.toCharArray()) {
            add(values, c);
        }
        return values;
    }

    /** The digest of an object in this state, with these characters in its buffer. */
    static long of(Supplier<AccentModems> state, String buffer) {
        long hash = 2417;
        for (long v : valuesOf(state, buffer)) {
            hash = 31 * hash + v;
        }
        return hash;
    }
}
