import java.util.function.LongSupplier;

/** Collects the calls of one test whose answer is not the one that is due. */
final class Due {
    private int wrong = 0;
    private int asked = 0;

    void answer(String call, long want, LongSupplier got) {
        asked++;
        String seen = seen(got);
        if (!seen.equals(Long.toString(want))) {
            tell(call, seen, Long.toString(want));
        }
    }

    void thrown(String call, Class<? extends RuntimeException> want, LongSupplier got) {
        asked++;
        String seen = seen(got);
        if (!seen.equals(throwsName(want))) {
            tell(call, seen, throwsName(want));
        }
    }

    void same(String what, String want, String got) {
        asked++;
        if (!want.equals(got)) {
            tell(what, got, want);
        }
    }

    /** The answer as a text, or throws.Name of what the call threw. */
    static String seen(LongSupplier call) {
        try {
            return Long.toString(call.getAsLong());
        } catch (RuntimeException e) {
            return throwsName(e.getClass());
        }
    }

    private static String throwsName(Class<?> thrown) {
        return "throws." + thrown.getSimpleName();
    }

    private void tell(String call, String seen, String want) {
        wrong++;
        System.out.println(call + " answered " + seen + ", due is " + want);
    }

    /** Ends the program with 1 if an answer was wrong. */
    void end() {
        System.out.println(asked + " asked, " + wrong + " wrong");
        if (wrong != 0) {
            System.exit(1);
        }
    }
}
