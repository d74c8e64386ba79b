/** Counts answers that are not as due; a test's main ends with end(). */
final class Check {
    private static int right = 0;
    private static int wrong = 0;

    private Check() {
    }

    static void due(String call, long got, long want) {
        if (got == want) {
            right++;
        } else {
            wrong++;
            System.out.println(call + " answered " + got + ", due is " + want);
        }
    }

    static void fails(String call, Class<? extends RuntimeException> want, Runnable made) {
        String got = "nothing";
        try {
            made.run();
        } catch (RuntimeException e) {
            got = e.getClass().getSimpleName();
        }
        if (got.equals(want.getSimpleName())) {
            right++;
        } else {
            wrong++;
            System.out.println(call + " threw " + got + ", due is " + want.getSimpleName());
        }
    }

    static void end(String test) {
        System.out.println(test + ": " + right + " answers as due, " + wrong + " not");
        if (wrong != 0 || right == 0) {
            System.exit(1);
        }
    }
}
