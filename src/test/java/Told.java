import java.util.ArrayList;
import java.util.List;
import java.util.function.LongSupplier;
import java.util.function.Supplier;

/**
 * All that objects of one recipe tell, as a row of numbers: two recipes with equal rows lead to the same state.
 * Each part is asked of an object of its own, since nothing is promised behind 512 calls.
 */
final class Told {
    private final List<Long> row = new ArrayList<>();

    private Told() {
    }

    static List<Long> by(Supplier<AccentModems> recipe) {
        Told told = new Told();
        for (int way = 0; way < 2; way++) {
            told.numbers(recipe.get(), way);
            told.waitingBits(recipe, way);
            told.whatWouldBe(recipe.get(), way);
        }
        told.savedStates(recipe.get());
        told.whatComesNext(recipe.get());
        return told.row;
    }

    /** The answer, or a number for the exception, which no answer here can be. */
    static long answer(LongSupplier called) {
        try {
            return called.getAsLong();
        } catch (RuntimeException e) {
            return Long.MIN_VALUE + e.getClass().getName().hashCode();
        }
    }

    private void numbers(AccentModems x, int way) {
        for (int what = 0; what <= 12; what++) {
            row.add((long) x.count(what));
        }
        for (int setting = 0; setting <= 2; setting++) {
            row.add((long) x.setting(setting));
        }
        for (int tone = 0; tone < 8; tone++) {
            for (int what = 0; what <= 6; what++) {
                row.add((long) x.street(way, tone, what));
            }
            for (int what = 0; what <= 10; what++) {
                row.add((long) x.accent(way, tone, what));
            }
        }
        row.add(x.had(way));
        row.add(Double.doubleToLongBits(x.rightShare(way)));
    }

    private void waitingBits(Supplier<AccentModems> recipe, int way) {
        int size = recipe.get().count(2 + way);
        for (int first = 0; first <= size; first += 128) {
            AccentModems x = recipe.get();
            for (int i = first; i <= size && i < first + 128; i++) {
                int place = i;
                row.add(answer(() -> x.waits(way, place)));
            }
        }
    }

    private void whatWouldBe(AccentModems x, int way) {
        for (int tone = 0; tone < 8; tone++) {
            row.add((long) x.sure(way, tone));
            row.add((long) x.hurts(way, tone));
        }
        for (int what = 0; what <= 2; what++) {
            row.add((long) x.ifSent(way, 3, what));
        }
        row.add((long) x.ifLearned(way, 9));
        row.add((long) x.beatsFor(way));
        row.add((long) x.bestLesson(way));
    }

    /** The digest tells of the buffer's characters, too. */
    private void savedStates(AccentModems x) {
        row.add(x.digest());
        int saved = x.count(12);
        for (int i = 0; i < saved; i++) {
            row.add((long) x.undo());
            row.add(x.digest());
        }
        row.add(answer(() -> x.undo()));
    }

    private void whatComesNext(AccentModems x) {
        row.add((long) x.firstError());
        row.add(answer(() -> x.append('7')));
        row.add(answer(() -> x.say()));
        for (int way = 0; way < 2; way++) {
            int w = way;
            row.add(answer(() -> x.send(w, 2)));
            row.add(answer(() -> x.learn(w, 2)));
        }
        row.add((long) x.clearBuffer());
        row.add(x.digest());
    }
}
