/** The sentences of the promises 25 and 26: runScript, simulate. */
final class ScriptSentences {
    private static final long FACTOR = 6364136223846793005L;
    private static final long SUMMAND = 1442695040888963407L;
    private static final int[] MOST = {4, 20, 40, 50, 9, 2};

    /** The blocks 10 to 49; of them 20 to 29 and 40 to 42 are in ranges. */
    private static final String TWO_RANGES = "write(10, 40); free(20, 10); free(40, 3);";

    /** The blocks 0 to 98 are alive but for a range from 0 to 59, which is due at once. */
    private static final String DUE = "write(0, 99); free(0, 60); set(1, 0); set(3, 0);";

    private ScriptSentences() {
    }

    static void all(Doc doc) {
        doc.section("Promise 25: runScript");
        scripts(doc);
        kindsOfCommands(doc);
        failing(doc);
        arguments(doc);
        doc.section("Promise 26: simulate");
        turns(doc);
        kindsOfTurns(doc);
        simulations(doc);
    }

    /** A script of that many groups answers that. */
    private static String script(int n, long script, int want) {
        return "runScript(" + n + ", " + script + ") = " + want + ";";
    }

    private static void scripts(Doc doc) {
        doc.says("Runs a script on a copy of the state.");
        for (long script : new long[] {100099200099500000L, 300060300060300060L, 400400403500410000L, 500000999999L}) {
            Run run = new Run(Given.FULL + "free(5, 50); run(2); pin(1, 3, 4); save(0)");
            String before = run.everything();
            run.then("runScript(3, " + script + ")");
            Check.same("what there is behind the script " + script, run.everything(), before);
        }
        // Each script begins with the state, not with what another script has left.
        new Run("runScript(2, 100009900001) = -1; runScript(1, 900001) = 0; runScript(1, 900000) = -1; write(0, 9);"
                + "runScript(1, 900001) = -1");
        doc.says("A script has 1 to 3 commands; each is a group of six decimal digits d1 to d6, and the first command is the highest group"
                + " of the number (with zeros before it, if it has fewer digits).");
        new Run(script(1, 500000, -1) + script(2, 500000500000L, -1) + script(3, 500000500000500000L, -1)
                + script(2, 500000, 0) + script(3, 500000, 0) + script(3, 500000500000L, 0)
                + script(1, 0, 0) + script(2, 0, 0) + script(3, 0, 0) + script(1, 5, 0)
                + script(2, 500000000000L, 1) + script(3, 500000000000000000L, 1) + script(3, 500000500000000000L, 2)
                + script(3, 500000000000500000L, 1));
        // The commands come one behind the other: the range is there behind the second one, not before.
        new Run(script(3, 100009200009800001L, -1) + script(3, 200009100009800001L, 2) + script(3, 800001100009200009L, 0));
    }

    private static void kindsOfCommands(Doc doc) {
        doc.says("1 b b b n n: write(bbb, nn).");
        new Run(script(2, 100701900701L, -1) + script(3, 100702900601900801L, 1) + script(3, 100702900801900900L, -1)
                + script(2, 125501925501L, -1) + script(3, 115799915701925501L, -1) + script(1, 100001, -1));
        new Run(TWO_RANGES + script(3, 102202800003700011L, -1) + script(3, 102202800003700010L, 2));
        doc.says("2 b b b n n: free(bbb, nn).");
        new Run(Given.FULL + script(3, 200702800001700002L, -1) + script(3, 200702700001800001L, 1) + script(3, 225501925500625501L, -1)
                + script(3, 215799700099700098L, 2) + script(3, 200001900000600001L, -1));
        doc.says("3 0 0 0 n n: run(nn).");
        new Run(DUE + "set(3, 3);" + script(2, 300004600000L, -1) + script(2, 300003600000L, 1) + script(2, 300003600001L, -1)
                + script(3, 300004700036700035L, 2) + script(2, 300060700000L, -1) + script(1, 300001, -1));
        doc.says("4 w v v 0 0: set(w, vv).");
        new Run(DUE + script(3, 400400300001700012L, -1) + script(3, 400400300001700011L, 2)
                + script(3, 400000300001700054L, -1) + script(3, 400000300001700053L, 2)
                + script(3, 412000300020700060L, -1) + script(3, 412000300020700059L, 2) + script(3, 412000300021700036L, -1)
                + script(3, 424000300001700000L, -1) + script(3, 435000300050700059L, 2) + script(3, 435000300051700036L, -1)
                + script(3, 440900300060700059L, 2) + script(3, 440000300001700028L, -1) + script(1, 450200, -1));
        // By the order 0 the block 40 goes first, by 1 the blocks 10 to 13, by 2 the block 0.
        new Run(Given.FULL + "free(40, 4); run(1); free(10, 20); run(1); free(0, 1); set(0, 0); set(2, 6); set(1, 0); set(3, 0);"
                + script(3, 450000300001604000L, -1) + script(3, 450100300001601300L, -1) + script(3, 450200300001600000L, -1)
                + script(3, 450000300001600000L, 2) + script(3, 450100300001604000L, 2) + script(3, 450200300001601300L, 2));
        doc.says("5 0 0 0 0 0: flush().");
        new Run(TWO_RANGES + script(3, 500000602000602801L, -1) + script(3, 500000700005800002L, -1) + script(2, 500000700004L, 1));
        doc.says("6 b b b 0 k: succeeds if block(bbb, 1) is k.");
        new Run(TWO_RANGES + script(1, 600900, -1) + script(1, 600901, 0) + script(1, 601001, -1) + script(1, 601000, 0)
                + script(1, 602001, -1) + script(1, 604901, -1) + script(1, 605000, -1) + script(1, 625500, -1) + script(1, 600000, -1)
                + script(1, 601002, 0) + script(1, 600902, 0) + script(1, 601009, 0));
        doc.says("7 0 0 n n n: succeeds if at most nnn blocks are in ranges.");
        new Run(TWO_RANGES + script(1, 700013, -1) + script(1, 700012, 0) + script(1, 700014, -1) + script(1, 700999, -1)
                + script(1, 700000, 0)
                + script(1, 700100, -1));
        new Run(script(1, 700000, -1));
        doc.says("8 0 0 0 n n: succeeds if there are at least nn ranges.");
        new Run(TWO_RANGES + script(1, 800000, -1) + script(1, 800001, -1) + script(1, 800002, -1) + script(1, 800003, 0)
                + script(1, 800099, 0)
                + script(1, 800020, 0));
        new Run(Given.FULL + Given.singles(0, 17) + script(1, 800016, -1) + script(1, 800017, 0));
        new Run(script(1, 800000, -1) + script(1, 800001, 0));
        doc.says("9 b b b 0 k: succeeds if block(bbb, 0) is k.");
        new Run(TWO_RANGES + script(1, 900900, -1) + script(1, 900901, 0) + script(1, 901001, -1) + script(1, 901000, 0)
                + script(1, 902000, -1) + script(1, 902001, 0) + script(1, 904901, -1) + script(1, 925500, -1) + script(1, 900000, -1)
                + script(1, 901002, 0) + script(1, 900902, 0));
    }

    private static void failing(Doc doc) {
        doc.says("The commands 1 to 4 fail if the method would throw an exception; commands with blocks that do not exist fail, and so"
                + " does any other group (also one with another digit where a 0 is written).");
        long[] fail = {125601, 125600, 199901, 100000, 125500, 125502, 115899, 225601, 299999, 200000, 225502, 215899,
            300000, 300061, 300099, 400500, 412100, 424100, 435100, 441000, 450300, 460000, 490000,
            625600, 625601, 699900, 925600, 925601, 999900, 0, 1, 99999, 12345,
            310001, 301001, 300101, 400001, 400010, 400410, 510000, 501000, 500100, 500010, 500001,
            601011, 602091, 710013, 701013, 701000, 810000, 801000, 800100, 800101, 901011, 900910};
        for (long group : fail) {
            new Run(TWO_RANGES + script(1, group, 0) + script(2, 500000000000L + group, 1) + script(3, 500000500000000000L + group, 2));
        }
        everyGroup(0, 0, 0, 0);
        everyGroup(10, 50, 20, 45);
        doc.says("bbb, nn, vv and nnn are decimal numbers.");
        new Run(script(2, 110010910901L, -1) + script(2, 110010911001L, 1) + script(2, 101010901901L, -1)
                + script(2, 100109900901L, -1));
        new Run(TWO_RANGES + script(2, 410100300010L, -1) + script(3, 410100300010700013L, -1) + script(1, 700020, -1));
    }

    /** Each group there is, on a device of which a span is written and a part of it freed; the ends are behind them. */
    private static void everyGroup(int written, int writtenEnd, int freed, int freedEnd) {
        IdleDiscards x = null;
        int wrong = 0;
        for (int group = 0; group < 1000000; group++) {
            if (group % 500 == 0) {
                x = new IdleDiscards();
                if (written < writtenEnd) {
                    x.write(written, writtenEnd - written);
                    x.free(freed, freedEnd - freed);
                }
            }
            int b = group / 100 % 1000;
            boolean isHeld = b >= written && b < writtenEnd;
            boolean isAlive = isHeld && (b < freed || b >= freedEnd);
            int want = succeeds(group, isHeld, isAlive, freedEnd - freed) ? -1 : 0;
            int got = x.runScript(1, group);
            if (got != want && wrong < 9) {
                wrong++;
                Check.due("runScript(1, " + group + ")", got, want);
            }
        }
        Check.due("groups that are not as due", wrong, 0);
    }

    private static boolean succeeds(int group, boolean isHeld, boolean isAlive, int queued) {
        int b = group / 100 % 1000;
        int n = group % 100;
        int w = group / 10000 % 10;
        switch (group / 100000) {
            case 1: case 2: return b <= 255 && n >= 1 && b + n <= 256;
            case 3: return b == 0 && n >= 1 && n <= 60;
            case 4: return n == 0 && w <= 5 && b % 100 <= MOST[w];
            case 5: return b == 0 && n == 0;
            case 6: return b <= 255 && n == (isHeld ? 1 : 0);
            case 7: return b < 10 && b * 100 + n >= queued;
            case 8: return b == 0 && n <= (queued > 0 ? 1 : 0);
            case 9: return b <= 255 && n == (isAlive ? 1 : 0);
            default: return false;
        }
    }

    private static void arguments(Doc doc) {
        doc.says("- `n`: number of commands, 1 to 3");
        new Run(script(1, 500000, -1) + script(2, 500000500000L, -1) + script(3, 500000500000500000L, -1));
        doc.says("- `script`: the commands, a number of at most 6 * n digits (0 or more)");
        new Run(script(1, 0, 0) + script(1, 999999, 0) + script(2, 999999999999L, 0) + script(3, 999999999999999999L, 0)
                + script(2, 1000000, 0) + script(3, 1000000000000L, 0));
        doc.says("Returns the index, from 0, of the first command that fails; NONE if all succeed.");
        new Run(script(3, 500001500001500001L, 0) + script(3, 500000500001500001L, 1) + script(3, 500000500000500001L, 2)
                + script(3, 500001500000500000L, 0) + script(2, 500000500001L, 1) + script(3, 500000500000500000L, -1));
        doc.says("Throws `IllegalArgumentException` if n is out of range, or if script is negative or has more than 6 * n digits");
        new Run("runScript(0, 0) ! argument; runScript(4, 0) ! argument; runScript(-1, 0) ! argument;"
                + "runScript(-2147483648, 0) ! argument; runScript(2147483647, 0) ! argument; runScript(0, -1) ! argument;"
                + "runScript(4, 999999) ! argument");
        new Run("runScript(1, -1) ! argument; runScript(3, -1) ! argument; runScript(3, -500000) ! argument;"
                + "runScript(3, -9223372036854775808) ! argument");
        new Run("runScript(1, 1000000) ! argument; runScript(2, 1000000000000) ! argument;"
                + "runScript(3, 1000000000000000000) ! argument;"
                + "runScript(1, 9223372036854775807) ! argument; runScript(3, 9223372036854775807) ! argument;"
                + "runScript(1, 4295467296) ! argument");
    }

    /** Finds a seed whose first turn has that r, by turning the generator back. */
    private static long seedFor(int r) {
        long inverse = 1;
        for (int i = 0; i < 6; i++) {
            inverse *= 2 - FACTOR * inverse;
        }
        return (((long) r << 33) - SUMMAND) * inverse;
    }

    /** A simulation of one turn with that r. */
    private static String turn(int r, int want) {
        return "simulate(" + seedFor(r) + ", 1) = " + want + ";";
    }

    private static void turns(Doc doc) {
        doc.says("Simulates m turns on a copy of the state.");
        Run run = new Run(Given.FULL + "free(5, 50); run(2); pin(1, 3, 4); save(0)");
        String before = run.everything();
        run.then("simulate(7, 60); simulate(7, 1)");
        Check.same("what there is behind simulations", run.everything(), before);
        new Run(DUE + turn(6, 24036) + turn(6, 24036));
        doc.says("A long x starts as the seed.");
        new Run(DUE + turn(6, 24036) + "simulate(0, 1) = " + byCalls(DUE, 0, 1));
        doc.says("Each turn first replaces x by x * 6364136223846793005L + 1442695040888963407L (with long overflow), and"
                + " r = (int) (x >>> 33) is computed.");
        // The seed is not a turn of its own; the greatest r, and a negative x.
        new Run(DUE + turn(Integer.MAX_VALUE, asCalls(DUE, Integer.MAX_VALUE)) + turn(0, asCalls(DUE, 0)));
        for (long seed : new long[] {0, 1, -1, Long.MIN_VALUE, Long.MAX_VALUE}) {
            new Run(DUE + "simulate(" + seed + ", 9) = " + byCalls(DUE, seed, 9));
        }
        doc.says("b is r / 8 % 256, l is 1 + r / 2048 % 40.");
        // Of the range from 0 to 59 the blocks are taken that the span covers: r = kind + 8 * b + 2048 * (l - 1).
        new Run(DUE + turn(8 * 10 + 2048 * 4, 55) + turn(8 * 10, 59) + turn(8 * 10 + 2048 * 39, 20) + turn(8 * 10 + 2048 * 40, 59));
        new Run(DUE + turn(8 * 59, 59) + turn(8 * 60, 60) + turn(8 * 256, 58) + turn(8 * 255, 60) + turn(7 * 8 + 2048 * 2, 57));
    }

    private static int asCalls(String given, int r) {
        return byCalls(given, seedFor(r), 1);
    }

    private static void kindsOfTurns(Doc doc) {
        doc.says("By r % 8: 0 and 1: write(b, l).");
        new Run(DUE + turn(0, 59) + turn(1, 59) + turn(8 * 20 + 2048 * 9, 50) + turn(1 + 8 * 20 + 2048 * 9, 50));
        doc.says("2 to 4: free(b, l).");
        new Run(DUE + turn(2 + 8 * 60 + 2048 * 9, 70) + turn(3 + 8 * 90 + 2048 * 39, 69) + turn(4 + 8 * 60 + 2048 * 38, 99)
                + turn(2 + 8 * 99, 60) + turn(4 + 8 * 98, 61));
        doc.says("5: pin(r / 8 % 3, r / 32 % 256, 1 + r / 8192 % 9).");
        new Run(DUE + turn(5, 60));
        Check.due("turns with a pin that holds blocks back in the next turn", pinsThatHoldBack(), 60);
        doc.says("Otherwise: run(1 + r / 8 % 8).");
        new Run(DUE + turn(6, 24036) + turn(7, 24036) + turn(6 + 8, 48012) + turn(7 + 8 * 2, 60000) + turn(6 + 8 * 8, 24036));
        new Run(DUE + "set(2, 3);" + turn(6, 4056) + turn(6 + 8 * 7, 32028) + turn(7 + 8 * 7, 32028) + turn(7 + 8 * 9, 8052));
        doc.says("What would throw an exception is left out.");
        // At the end of the device: a span up to the last block, and one beyond it.
        String last = Given.FULL + "free(250, 5);";
        new Run(last + turn(8 * 250 + 2048 * 5, 0) + turn(8 * 250 + 2048 * 6, 5) + turn(2 + 8 * 255, 6) + turn(2 + 8 * 255 + 2048, 5)
                + turn(1 + 8 * 254 + 2048, 4) + turn(1 + 8 * 254 + 2048 * 2, 5));
    }

    /** Seeds whose first turn pins blocks of a range that is due, and whose second one runs: 60 of them are tried. */
    private static int pinsThatHoldBack() {
        String given = "set(0, 0); set(1, 0); set(2, 40); set(3, 0); set(4, 0); write(0, 30); free(0, 30);";
        int fine = 0;
        int tried = 0;
        for (long seed = 0; tried < 60; seed++) {
            long x1 = seed * FACTOR + SUMMAND;
            long x2 = x1 * FACTOR + SUMMAND;
            int r1 = (int) (x1 >>> 33);
            int r2 = (int) (x2 >>> 33);
            int first = r1 / 32 % 256;
            if (r1 % 8 == 5 && r2 % 8 >= 6 && (first < 30 || first > 246 && tried % 2 == 0)) {
                int end = first + 1 + r1 / 8192 % 9;
                int kept = end > 256 ? 0 : Math.max(0, Math.min(30, end) - first);
                tried++;
                fine += new Run(given).answer("simulate(" + seed + ", 2)") == 1000 * (30 - kept) + kept ? 1 : 0;
            }
        }
        return fine;
    }

    /** The recipe of the document, with calls of the face on an object that has had the same calls. */
    private static int byCalls(String given, long seed, int m) {
        Run run = new Run(given);
        int before = run.answer("about(7)");
        long x = seed;
        for (int i = 0; i < m; i++) {
            x = x * FACTOR + SUMMAND;
            int r = (int) (x >>> 33);
            int b = r / 8 % 256;
            int l = 1 + r / 2048 % 40;
            int p = r / 32 % 256;
            int n = 1 + r / 8192 % 9;
            if (r % 8 <= 1 && b + l <= 256) {
                run.answer("write(" + b + ", " + l + ")");
            } else if (r % 8 >= 2 && r % 8 <= 4 && b + l <= 256) {
                run.answer("free(" + b + ", " + l + ")");
            } else if (r % 8 == 5 && p + n <= 256) {
                run.answer("pin(" + r / 8 % 3 + ", " + p + ", " + n + ")");
            } else if (r % 8 >= 6) {
                run.answer("run(" + (1 + r / 8 % 8) + ")");
            }
        }
        return 1000 * (run.answer("about(7)") - before) + run.answer("about(3)");
    }

    private static void simulations(Doc doc) {
        doc.says("- `seed`: any long");
        String used = "write(50, 99); free(60, 70); pin(2, 70, 9); run(4);";
        for (long seed : new long[] {0, 1, -1, 42, 123456789, -987654321, Long.MIN_VALUE, Long.MAX_VALUE}) {
            for (int m : new int[] {1, 2, 7, 30, 59, 60}) {
                new Run(used + "simulate(" + seed + ", " + m + ") = " + byCalls(used, seed, m));
            }
        }
        for (long seed = 2; seed <= 200; seed++) {
            new Run(used + "set(1, 0); set(3, 0); simulate(" + seed + ", 60) = " + byCalls(used + "set(1, 0); set(3, 0)", seed, 60));
        }
        doc.says("- `m`: number of turns, 1 to 60");
        new Run(used + "simulate(3, 1) = " + byCalls(used, 3, 1) + "; simulate(3, 60) = " + byCalls(used, 3, 60));
        doc.says("Returns 1000 * (the blocks that are discarded in them) + (the blocks that are in ranges at the end).");
        // Blocks that were discarded before do not count.
        new Run(DUE + "run(1) = 24;" + turn(6, 24012) + turn(0, 36) + turn(2 + 8 * 90, 37) + "run(2) = 36;" + turn(6, 0));
        doc.says("Throws `IllegalArgumentException` if m is out of range");
        new Run("simulate(1, 0) ! argument; simulate(1, 61) ! argument; simulate(1, -1) ! argument;"
                + "simulate(0, -2147483648) ! argument; simulate(-1, 2147483647) ! argument");
    }
}
