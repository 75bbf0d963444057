import java.util.Arrays;

/** Counts the answers that are not as due, and ends a test with 1 if there was one. */
final class Due {
    private static int asked = 0;
    private static int wrong = 0;
    private static String about = "";

    private Due() {
    }

    /** Stands ahead of each wrong answer that is told from here on. */
    static void about(String words) {
        about = words + ": ";
    }

    /** A call as it is written. */
    static String call(String name, int... with) {
        return name + Arrays.toString(with).replace('[', '(').replace(']', ')');
    }

    static void is(String call, long want, long got) {
        same(call, Long.toString(want), Long.toString(got));
    }

    static void is(String call, boolean want, boolean got) {
        same(call, Boolean.toString(want), Boolean.toString(got));
    }

    static void same(String call, String want, String got) {
        asked++;
        if (!want.equals(got)) {
            wrong++;
            System.out.println(about + call + " answered " + got + ", due is " + want);
        }
    }

    /** The very class that is due, not one below it. */
    static void thrown(String call, Class<? extends RuntimeException> want, Runnable run) {
        String got = "nothing thrown";
        try {
            run.run();
        } catch (RuntimeException e) {
            got = e.getClass().getSimpleName();
        }
        same(call, want.getSimpleName(), got);
    }

    static void end() {
        System.out.println(asked + " answers, " + wrong + " not as due");
        if (wrong != 0 || asked == 0) {
            System.exit(1);
        }
    }
}
