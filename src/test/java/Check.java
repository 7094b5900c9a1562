import java.util.NoSuchElementException;

/** Counts answers that are not as due, and ends a test by them. */
final class Check {
    private static int wrong = 0;
    private static int asked = 0;
    private static String part = "";

    private Check() {
    }

    interface Call {
        int answer();
    }

    /** What the answers to come belong to. */
    static void part(String name) {
        part = name;
    }

    static int asked() {
        return asked;
    }

    static void due(String call, int got, int want) {
        due(call, String.valueOf(got), String.valueOf(want));
    }

    static void due(String call, boolean got, boolean want) {
        due(call, String.valueOf(got), String.valueOf(want));
    }

    static void due(String call, String got, String want) {
        asked++;
        if (!got.equals(want)) {
            tellWrong(call + " answered " + got + ", due is " + want);
        }
    }

    static void dueNothingSuch(String call, Call made) {
        asked++;
        try {
            tellWrong(call + " answered " + made.answer() + ", due is NoSuchElementException");
        } catch (NoSuchElementException e) {
            // as due
        }
    }

    static void tellWrong(String what) {
        wrong++;
        System.out.println(part + ": " + what);
    }

    static void finish() {
        if (wrong == 0 && asked > 0) {
            System.out.println(asked + " answers are as due");
        } else {
            System.out.println(wrong + " of " + asked + " answers are not as due");
            System.exit(1);
        }
    }
}
