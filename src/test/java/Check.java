import java.util.function.LongSupplier;

/** Compares answers with those that are due, and ends a test with 1 if one was wrong. */
final class Check {
    private static int wrong = 0;
    private static String about = "";

    private Check() {
    }

    static void due(String call, long got, long want) {
        if (got != want) {
            tell(call + " answered " + got + ", due is " + want);
        }
    }

    static void dueBits(String call, double got, double want) {
        due(call, Double.doubleToLongBits(got), Double.doubleToLongBits(want));
    }

    static void dueText(String call, String got, String want) {
        if (!got.equals(want)) {
            tell(call + " answered " + got + ", due is " + want);
        }
    }

    /** The exception must be of the very class: one below it comes from the machine. */
    static void dueThrow(String call, Class<? extends RuntimeException> want, LongSupplier made) {
        dueText(call, answer(made), "throws." + want.getSimpleName());
    }

    static void noIndex(String call, LongSupplier made) {
        dueThrow(call, IndexOutOfBoundsException.class, made);
    }

    static void badArgument(String call, LongSupplier made) {
        dueThrow(call, IllegalArgumentException.class, made);
    }

    static void badState(String call, LongSupplier made) {
        dueThrow(call, IllegalStateException.class, made);
    }

    static String answer(LongSupplier made) {
        try {
            return Long.toString(made.getAsLong());
        } catch (RuntimeException e) {
            return "throws." + e.getClass().getSimpleName();
        }
    }

    /** The calls that are refused must leave the ferry as it was. */
    static void unchanged(String call, CableFerry ferry, Runnable calls) {
        long before = ferry.digest();
        calls.run();
        due("digest() behind " + call, ferry.digest(), before);
    }

    /** The call must save one state, and undo() must bring back what was; it is done again then. */
    static void undoable(String call, CableFerry ferry, LongSupplier made) {
        int saved = ferry.count(13);
        due("5 saved states at most before " + call, Math.max(5, saved), 5);
        long before = ferry.digest();
        long answer = made.getAsLong();
        due("count(13) behind " + call, ferry.count(13), saved + 1);
        due("undo() behind " + call, ferry.undo(), saved);
        due("digest() behind " + call + " and undo()", ferry.digest(), before);
        due(call + " again", made.getAsLong(), answer);
    }

    static void type(CableFerry ferry, String text) {
        for (int i = 0; i < text.length(); i++) {
            ferry.append(text.charAt(i));
        }
    }

    static CableFerry typed(String text) {
        CableFerry ferry = new CableFerry();
        type(ferry, text);
        return ferry;
    }

    static void end() {
        if (wrong > 0) {
            System.out.println(wrong + " wrong");
            System.exit(1);
        }
    }

    /** What is put ahead of each fault from now on. */
    static void about(String text) {
        about = text;
    }

    static void tell(String fault) {
        wrong++;
        if (wrong <= 50) {
            System.out.println(about + fault);
        }
    }
}
