/** Counts the answers that are not as due, and ends a test by them. */
final class Due {
    private static int asked = 0;
    private static int wrong = 0;

    private Due() {
    }

    static void same(String call, long got, long want) {
        asked++;
        if (got != want) {
            wrong++;
            System.out.println(call + " answered " + got + ", due is " + want);
        }
    }

    static void yes(String what, boolean holds) {
        asked++;
        if (!holds) {
            wrong++;
            System.out.println(what + " does not hold");
        }
    }

    /** A test that asks nothing would pass whatever the class does, so it counts as failed. */
    static void end() {
        System.out.println(asked + " answers, " + wrong + " not as due");
        System.exit(wrong == 0 && asked > 0 ? 0 : 1);
    }

    static long name(String letters) {
        long name = 0;
        for (int i = 0; i < letters.length(); i++) {
            name |= (long) letters.charAt(i) << (8 * i);
        }
        return name;
    }
}
