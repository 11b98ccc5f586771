/** Counts and prints what is not as due; each test ends with end(). */
final class Check {
    interface Call {
        long answer();
    }

    private static int wrong = 0;
    private static int asked = 0;

    private Check() {
    }

    static void equal(String what, long got, long due) {
        asked++;
        if (got != due) {
            wrong++;
            System.out.println(what + " answered " + got + ", due is " + due);
        }
    }

    static void isTrue(String what, boolean holds) {
        equal(what, holds ? 1 : 0, 1);
    }

    /** The very class is asked for, as each call throws just what the document names. */
    static void throwing(String what, Class<? extends RuntimeException> due, Call call) {
        asked++;
        try {
            long got = call.answer();
            wrong++;
            System.out.println(what + " answered " + got + ", due is " + due.getSimpleName());
        } catch (RuntimeException e) {
            if (e.getClass() != due) {
                wrong++;
                System.out.println(what + " threw " + e + ", due is " + due.getSimpleName());
            }
        }
    }

    static void outOfBounds(String what, Call call) {
        throwing(what, IndexOutOfBoundsException.class, call);
    }

    static void illegalState(String what, Call call) {
        throwing(what, IllegalStateException.class, call);
    }

    static void illegalArgument(String what, Call call) {
        throwing(what, IllegalArgumentException.class, call);
    }

    /** Makes a pair of these sentences; tells its number. */
    static int pairOf(Glosspair aligner, int[] first, int[] second) {
        for (int word : first) {
            aligner.put(0, word);
        }
        for (int word : second) {
            aligner.put(1, word);
        }
        return aligner.pair();
    }

    static int[] words(int... words) {
        return words;
    }

    static void end() {
        System.out.println(wrong == 0 ? asked + " answers are as due" : wrong + " of " + asked + " are not as due");
        if (wrong != 0) {
            System.exit(1);
        }
    }
}
