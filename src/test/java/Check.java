import java.util.function.LongSupplier;

/** Counts and prints the calls of a test whose answers are not as due. */
final class Check {
    private int rows;
    private int wrong;

    void due(String call, long got, long want) {
        rows++;
        if (got != want) {
            complain(call + " answered " + got + ", due is " + want);
        }
    }

    void dueDouble(String call, double got, double want) {
        due(call + " as bits", Double.doubleToRawLongBits(got), Double.doubleToRawLongBits(want));
    }

    /** The very class: an exception of the Java machine is often a subclass of the one that is due. */
    void dueThrow(String call, Class<? extends RuntimeException> want, LongSupplier called) {
        rows++;
        String got = "the answer ";
        try {
            got += called.getAsLong();
        } catch (RuntimeException e) {
            if (e.getClass() == want) {
                return;
            }
            got = e.getClass().getName();
        }
        complain(call + " gave " + got + ", due is " + want.getName());
    }

    /** As dueThrow, and the object is the same behind the call: the digest tells of all but the saved states. */
    void dueThrowUnchanged(String call, AccentModems x, Class<? extends RuntimeException> want, LongSupplier called) {
        long before = x.digest();
        dueThrow(call, want, called);
        due("digest behind " + call, x.digest(), before);
    }

    void complain(String what) {
        wrong++;
        System.out.println(what);
    }

    void end() {
        System.out.println(rows + " rows, " + wrong + " wrong");
        if (wrong > 0 || rows == 0) {
            System.exit(1);
        }
    }

    static void append(AccentModems x, String text) {
        for (int i = 0; i < text.length(); i++) {
            x.append(text.charAt(i));
        }
    }

    static int say(AccentModems x, String text) {
        append(x, text);
        return x.say();
    }
}
