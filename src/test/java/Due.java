/** Counts the answers that are not the ones due, and prints each. */
final class Due {
    interface Call {
        void run();
    }

    private static final int MOST_TOLD = 300;

    private static int asked = 0;
    private static int wrong = 0;

    private Due() {
    }

    static void same(String what, long got, long want) {
        asked++;
        if (got != want) {
            tell(what + " answered " + got + ", due is " + want);
        }
    }

    static void same(String what, Object got, Object want) {
        asked++;
        if (!got.equals(want)) {
            tell(what + " answered " + cut(got, want) + ", due is " + cut(want, got));
        }
    }

    /** The class must be that very one: a class below it would be the machine's own exception. */
    static void thrown(String what, Class<? extends RuntimeException> want, Call call) {
        asked++;
        Class<?> got = null;
        try {
            call.run();
        } catch (RuntimeException e) {
            got = e.getClass();
        }
        if (got != want) {
            tell(what + " throws " + got + ", due is " + want);
        }
    }

    static void finish() {
        System.out.println(asked + " answers, " + wrong + " of them wrong");
        if (wrong != 0) {
            System.exit(1);
        }
    }

    /** A long text only round the place where it differs from the other. */
    private static String cut(Object text, Object other) {
        String all = text.toString();
        if (all.length() <= MOST_TOLD) {
            return all;
        }
        String second = other.toString();
        int same = 0;
        while (same < Math.min(all.length(), second.length()) && all.charAt(same) == second.charAt(same)) {
            same++;
        }
        int from = Math.max(0, same - MOST_TOLD / 2);
        return ".. " + all.substring(from, Math.min(all.length(), from + MOST_TOLD)) + " ..";
    }

    private static void tell(String text) {
        wrong++;
        System.out.println(text);
    }
}
