/** Counts the answers that are not the ones that are due, and prints them. */
final class Check {
    interface Call {
        long answer();
    }

    private static int asked = 0;
    private static int wrong = 0;

    private Check() {
    }

    static void due(String call, long got, long want) {
        asked++;
        if (got != want) {
            wrong++;
            System.out.println(call + " answered " + got + ", due is " + want);
        }
    }

    static void same(String call, String got, String want) {
        asked++;
        if (!got.equals(want)) {
            wrong++;
            System.out.println(call + " answered " + got + ", due is " + want);
        }
    }

    static void index(String call, Call c) {
        same(call, outcome(c), "throws.IndexOutOfBoundsException");
    }

    static void argument(String call, Call c) {
        same(call, outcome(c), "throws.IllegalArgumentException");
    }

    static void state(String call, Call c) {
        same(call, outcome(c), "throws.IllegalStateException");
    }

    /** The answer as a text, or the exact class of what the call throws. */
    static String outcome(Call c) {
        try {
            return Long.toString(c.answer());
        } catch (RuntimeException e) {
            return "throws." + e.getClass().getSimpleName();
        }
    }

    static int countWrong() {
        return wrong;
    }

    /** To be called last in each main. */
    static void end() {
        System.out.println(asked + " answers, " + wrong + " not as due");
        if (wrong != 0 || asked == 0) {
            System.exit(1);
        }
    }

    /** All that can be asked without a change, but for the remembered states and the save slots. */
    static String view(IdleDiscards x) {
        StringBuilder all = new StringBuilder();
        for (int what = 0; what <= 10; what++) {
            all.append(x.about(what)).append(' ');
        }
        for (int b = 0; b < 256; b++) {
            all.append('|');
            for (int what = 0; what <= 3; what++) {
                all.append(x.block(b, what)).append(' ');
            }
        }
        for (int k = 0; k < x.about(2); k++) {
            all.append('#');
            for (int what = 0; what <= 5; what++) {
                all.append(x.range(k, what)).append(' ');
            }
        }
        for (int k = 0; k < 3; k++) {
            all.append('/').append(x.pinned(k, 0)).append(' ').append(x.pinned(k, 1));
        }
        for (int what = 0; what <= 5; what++) {
            all.append('=').append(x.setting(what));
        }
        return all.toString();
    }

    /** Puts a text in place of the one that the object has. */
    static void text(IdleDiscards x, String text) {
        x.clearText();
        for (int i = 0; i < text.length(); i++) {
            x.append(text.charAt(i));
        }
    }
}
