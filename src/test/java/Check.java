/** Counts the answers that are not the ones that are due, and prints them. */
final class Check {
    private static String about = "";
    private static int asked = 0;
    private static int wrong = 0;

    private Check() {
    }

    /** Tells what the answers that follow are about; it is printed with each wrong one. */
    static void about(String what) {
        about = what;
    }

    static void same(String call, String got, String want) {
        asked++;
        if (!got.equals(want)) {
            wrong++;
            System.out.println((about.isEmpty() ? "" : about + "\n    ") + call + " answered " + got + ", due is " + want);
        }
    }

    static void due(String call, long got, long want) {
        same(call, Long.toString(got), Long.toString(want));
    }

    static int countAsked() {
        return asked;
    }

    static int countWrong() {
        return wrong;
    }

    /** To be called last in each main. */
    static void end() {
        System.out.println(asked + " answers, " + wrong + " not as due");
        if (wrong != 0 || asked == 0) {
            System.exit(1);
        }
    }
}
