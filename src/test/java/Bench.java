/**
 * A test's bench: an object of FareClock, and lines such as "hire 0 5 600 0 = 0; fare = 300", each call with the answer
 * that is due (a boolean counts 1 or 0; STATE, ARGUMENT, INDEX, NOSUCH are the exceptions). A call without "=" may
 * answer anything, but must not throw.
 */
final class Bench {
    /** What an object answers behind so many calls is free, so a test must not look at it. */
    private static final int MOST_CALLS = 512;
    private static final int MOST_TOLD = 100;
    private static int wrong;
    private final String title;
    private final FareClock clock = new FareClock();
    private int calls;
    private int mostCalls = MOST_CALLS;

    Bench(String title) {
        this.title = title;
    }

    Bench due(String... lines) {
        for (String line : lines) {
            for (String call : line.split(";")) {
                one(call.trim());
            }
        }
        return this;
    }

    /** For what can't be reached in 512 calls, though the class keeps to it. */
    Bench withMoreCalls() {
        mostCalls = Integer.MAX_VALUE;
        return this;
    }

    /** The same calls, so many times. */
    Bench times(int n, String line) {
        for (int i = 0; i < n; i++) {
            due(line);
        }
        return this;
    }

    private void one(String call) {
        String[] sides = call.split("=");
        String[] words = sides[0].trim().split(" +");
        long[] args = new long[words.length - 1];
        for (int i = 0; i < args.length; i++) {
            args[i] = Long.parseLong(words[i + 1]);
        }
        calls++;
        if (calls == mostCalls + 1) {
            fail(title, "more calls than " + mostCalls);
        }
        String got = Calls.answer(clock, words[0], args);
        boolean fits = sides.length > 1 ? got.equals(spelled(sides[1].trim())) : !got.startsWith("throws.");
        if (!fits) {
            fail(title, call + ", but it answered " + got);
        }
    }

    private static String spelled(String due) {
        switch (due) {
            case "STATE":
                return "throws.IllegalStateException";
            case "ARGUMENT":
                return "throws.IllegalArgumentException";
            case "INDEX":
                return "throws.IndexOutOfBoundsException";
            case "NOSUCH":
                return "throws.NoSuchElementException";
            default:
                return due;
        }
    }

    static void fail(String title, String what) {
        wrong++;
        if (wrong <= MOST_TOLD) {
            System.out.println(title + ": " + what);
        }
    }

    static void close() {
        if (wrong != 0) {
            System.out.println(wrong + " answers are not as due");
            System.exit(1);
        }
    }
}
