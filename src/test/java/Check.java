import java.util.EnumMap;
import java.util.List;
import java.util.Map;
import java.util.function.LongSupplier;
import java.util.function.Supplier;
import java.util.function.ToLongFunction;

/** Counts and prints the calls of a test whose answers are not as due. */
final class Check {
    private static final Map<Busy, List<Long>> TOLD = new EnumMap<>(Busy.class);

    private int rows;
    private int wrong;

    void due(String call, long got, long want) {
        rows++;
        if (got != want) {
            complain(call + " answered " + got + ", due is " + want);
        }
    }

    void dueDouble(String call, double got, double want) {
        due(call + " as bits", Double.doubleToRawLongBits(got), Double.doubleToRawLongBits(want));
    }

    /** The very class: an exception of the Java machine is often a subclass of the one that is due. */
    void dueThrow(String call, Class<? extends RuntimeException> want, LongSupplier called) {
        rows++;
        String got = "the answer ";
        try {
            got += called.getAsLong();
        } catch (RuntimeException e) {
            if (e.getClass() == want) {
                return;
            }
            got = e.getClass().getName();
        }
        complain(call + " gave " + got + ", due is " + want.getName());
    }

    /** As dueThrow, and the object is the same behind the call: the digest tells of all but the saved states. */
    void dueThrowUnchanged(String call, AccentModems x, Class<? extends RuntimeException> want, LongSupplier called) {
        long before = x.digest();
        dueThrow(call, want, called);
        due("digest behind " + call, x.digest(), before);
    }

    /** As dueThrow, and all that can be told is as if the call had not been made, the saved states, too. */
    void dueRefused(String call, Class<? extends RuntimeException> want, Busy when,
            ToLongFunction<AccentModems> called) {
        List<Long> before = TOLD.computeIfAbsent(when, b -> Told.by(b.recipe));
        dueRefused(call + " when " + when, want, when.recipe, before, called);
    }

    void dueRefused(String call, Class<? extends RuntimeException> want, Supplier<AccentModems> recipe,
            ToLongFunction<AccentModems> called) {
        dueRefused(call, want, recipe, Told.by(recipe), called);
    }

    private void dueRefused(String call, Class<? extends RuntimeException> want, Supplier<AccentModems> recipe,
            List<Long> before, ToLongFunction<AccentModems> called) {
        AccentModems x = recipe.get();
        dueThrow(call, want, () -> called.applyAsLong(x));
        dueSame("all behind " + call, before, Told.by(() -> {
            AccentModems y = recipe.get();
            Told.answer(() -> called.applyAsLong(y));
            return y;
        }));
    }

    void dueSame(String what, List<Long> want, List<Long> got) {
        rows++;
        if (!want.equals(got)) {
            int place = 0;
            while (place < want.size() && place < got.size() && want.get(place).equals(got.get(place))) {
                place++;
            }
            complain(what + " is another from the number " + place + " on");
        }
    }

    void complain(String what) {
        wrong++;
        System.out.println(what);
    }

    void end() {
        System.out.println(rows + " rows, " + wrong + " wrong");
        if (wrong > 0 || rows == 0) {
            System.exit(1);
        }
    }

    static void append(AccentModems x, String text) {
        for (int i = 0; i < text.length(); i++) {
            x.append(text.charAt(i));
        }
    }

    static int say(AccentModems x, String text) {
        append(x, text);
        return x.say();
    }
}
