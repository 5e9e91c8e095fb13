/** Counts the answers of a test that are not as due. */
final class Due {
    private static int wrong = 0;
    private static String sentence = "";

    private Due() {
    }

    /** The document's words that the following answers are asked by. */
    static void sentence(String words) {
        sentence = words;
    }

    private static void tell(String fault) {
        wrong++;
        System.out.println((sentence.isEmpty() ? "" : "'" + sentence + "': ") + fault);
    }

    static void is(String call, long got, long want) {
        if (got != want) {
            tell(call + " answered " + got + ", due is " + want);
        }
    }

    static void is(String call, boolean got, boolean want) {
        is(call, got ? 1 : 0, want ? 1 : 0);
    }

    static void same(String call, String got, String want) {
        if (!got.equals(want)) {
            tell(call + " answered " + got + ", due is " + want);
        }
    }

    /** The call throws just that class. */
    static void fails(String call, Class<? extends RuntimeException> want, Runnable run) {
        Class<?> got = null;
        try {
            run.run();
        } catch (RuntimeException e) {
            got = e.getClass();
        }
        if (got != want) {
            tell(call + " threw " + got + ", due is " + want);
        }
    }

    static void index(String call, Runnable run) {
        fails(call, IndexOutOfBoundsException.class, run);
    }

    static void argument(String call, Runnable run) {
        fails(call, IllegalArgumentException.class, run);
    }

    static void state(String call, Runnable run) {
        fails(call, IllegalStateException.class, run);
    }

    static void end() {
        if (wrong != 0) {
            System.out.println(wrong + " answers are not as due");
            System.exit(1);
        }
    }
}
