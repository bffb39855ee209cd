/** Counts the answers that are not the ones that are due, and prints them. */
final class Check {
    private static String about = "";
    private static int asked = 0;
    private static int wrong = 0;

    private Check() {
    }

    /** Tells what the answers that follow are about; it is printed with each wrong one. */
    static void about(String what) {
        about = what;
    }

    static void same(String call, String got, String want) {
        asked++;
        if (!got.equals(want)) {
            wrong++;
            int from = firstDifference(got, want);
            System.out.println((about.isEmpty() ? "" : about + "\n    ") + call + " answered " + part(got, from)
                    + ", due is " + part(want, from));
        }
    }

    private static int firstDifference(String a, String b) {
        int at = 0;
        while (at < a.length() && at < b.length() && a.charAt(at) == b.charAt(at)) {
            at++;
        }
        return at;
    }

    /** Whole states are long: of a long answer only what stands round the first difference is printed. */
    private static String part(String answer, int at) {
        int from = Math.max(0, at - 100);
        int end = Math.min(answer.length(), at + 100);
        return (from > 0 ? ".. " : "") + answer.substring(from, end) + (end < answer.length() ? " .." : "");
    }

    static void due(String call, long got, long want) {
        same(call, Long.toString(got), Long.toString(want));
    }

    static int countAsked() {
        return asked;
    }

    static int countWrong() {
        return wrong;
    }

    /** To be called last in each main. */
    static void end() {
        System.out.println(asked + " answers, " + wrong + " not as due");
        if (wrong != 0 || asked == 0) {
            System.exit(1);
        }
    }
}
