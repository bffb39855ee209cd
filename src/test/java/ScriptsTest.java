/** The promises 25 and 26: runScript, simulate. */
public final class ScriptsTest {
    public static void main(String[] args) {
        scripts();
        everyKindOfCommand();
        commandsOnTheCopy();
        wrongScripts();
        simulateOneTurn();
        simulate();
        wrongSimulations();
        Check.end();
    }

    private static void scriptIs(IdleDiscards x, int n, long script, int want) {
        Check.due("runScript(" + n + ", " + script + ")", x.runScript(n, script), want);
    }

    private static void scripts() {
        IdleDiscards x = new IdleDiscards();
        scriptIs(x, 1, 0, 0);
        scriptIs(x, 3, 0, 0);
        scriptIs(x, 1, 999999, 0);
        scriptIs(x, 1, 500000, -1);
        scriptIs(x, 2, 500000, 0);
        scriptIs(x, 2, 500000000000L, 1);
        scriptIs(x, 2, 500000500000L, -1);
        scriptIs(x, 3, 500000500000L, 0);
        scriptIs(x, 3, 500000500000000000L, 2);
        scriptIs(x, 3, 500000500000500000L, -1);
        scriptIs(x, 3, 500000500001500000L, 1);
        scriptIs(x, 3, 999999999999999999L, 0);
    }

    private static void everyKindOfCommand() {
        IdleDiscards x = new IdleDiscards();
        x.write(10, 40);
        x.free(20, 10);
        x.free(40, 3);
        long[] good = {100001, 125501, 115799, 110099, 200001, 225501, 215799, 300001, 300060, 400000, 400400, 410000,
            412000, 424000, 435000, 440900, 450200, 500000, 601001, 604901, 600900, 625500, 700013, 700999, 800002,
            800001, 800000, 901001, 902000, 900900, 904901, 925500};
        for (long script : good) {
            scriptIs(x, 1, script, -1);
        }
        long[] bad = {0, 1, 99999, 100000, 125600, 125601, 199901, 125502, 115899, 200000, 225502, 225601, 300000, 300061,
            300099, 301001, 310001, 330001, 300101, 400500, 400001, 400410, 412100, 424100, 435100, 441000, 450300,
            460000, 499900, 500001, 500010, 510000, 601000, 601002, 601011, 602000, 600901, 625501, 625600, 699900,
            601009, 700012, 701000, 710000, 701013, 710013, 700000, 800003, 800099, 800100, 800101, 801000, 810000, 901000, 901002, 901011,
            902001, 900901, 925501, 925600, 999900};
        for (long script : bad) {
            scriptIs(x, 1, script, 0);
        }
    }

    private static void commandsOnTheCopy() {
        IdleDiscards x = new IdleDiscards();
        x.write(0, 64);
        x.free(0, 8);
        String before = Check.view(x);
        // Behind write(0, 2) 6 blocks of one range are left.
        scriptIs(x, 2, 100002700006L, -1);
        scriptIs(x, 2, 100002700005L, 1);
        scriptIs(x, 3, 100402800002900401L, -1);
        scriptIs(x, 3, 100402800003900401L, 1);
        // Behind free(20, 3) there are two ranges, of 11 blocks in all.
        scriptIs(x, 3, 202003800002700011L, -1);
        scriptIs(x, 3, 202003800002700010L, 2);
        // Behind 4 ticks the granules at 0 and 4 are discarded, behind 3 not yet.
        scriptIs(x, 3, 300004600000600700L, -1);
        scriptIs(x, 2, 300003600000L, 1);
        scriptIs(x, 3, 300003600001600701L, -1);
        // With granules of 16 nothing can be discarded.
        scriptIs(x, 3, 400400500000600001L, -1);
        scriptIs(x, 3, 400300500000600000L, -1);
        scriptIs(x, 3, 400300500000600001L, 2);
        Check.same("the state behind scripts", Check.view(x), before);
        Check.due("undo(): scripts are not remembered", x.undo(), 1);
    }

    private static void wrongScripts() {
        IdleDiscards x = new IdleDiscards();
        for (int n : new int[] {0, -1, 4, Integer.MIN_VALUE, Integer.MAX_VALUE}) {
            Check.argument("runScript(" + n + ", 0)", () -> x.runScript(n, 0));
        }
        for (int n = 1; n <= 3; n++) {
            int count = n;
            Check.argument("runScript(n, -1)", () -> x.runScript(count, -1));
            Check.argument("runScript(n, least)", () -> x.runScript(count, Long.MIN_VALUE));
            Check.argument("runScript(n, greatest)", () -> x.runScript(count, Long.MAX_VALUE));
        }
        Check.argument("runScript(1, 7 digits)", () -> x.runScript(1, 1000000));
        Check.argument("runScript(2, 13 digits)", () -> x.runScript(2, 1000000000000L));
        Check.argument("runScript(3, 19 digits)", () -> x.runScript(3, 1000000000000000000L));
        Check.due("runScript(1, 6 digits)", x.runScript(1, 999999), 0);
        Check.due("runScript(2, 12 digits)", x.runScript(2, 999999999999L), 0);
    }

    private static final long FACTOR = 6364136223846793005L;
    private static final long SUMMAND = 1442695040888963407L;

    /** Finds a seed whose first turn has that r, by turning the generator back. */
    private static long seedFor(int r) {
        long inverse = 1;
        for (int i = 0; i < 6; i++) {
            inverse *= 2 - FACTOR * inverse;
        }
        return (((long) r << 33) - SUMMAND) * inverse;
    }

    private static void turn(IdleDiscards x, int r, int want) {
        Check.due("simulate() of one turn with r = " + r, x.simulate(seedFor(r), 1), want);
    }

    private static void simulateOneTurn() {
        IdleDiscards x = new IdleDiscards();
        x.write(0, 99);
        x.free(0, 60);
        x.set(1, 0);
        x.set(3, 0);
        // r = kind + 8 * block + 2048 * (length - 1)
        turn(x, 0 + 8 * 10 + 2048 * 4, 55);
        turn(x, 1 + 8 * 55 + 2048 * 39, 55);
        turn(x, 1 + 8 * 55 + 2048 * 43, 56);
        turn(x, 0 + 8 * 250 + 2048 * 9, 60);
        turn(x, 1 + 8 * 59 + 2048 * 40, 59);
        turn(x, 2 + 8 * 60 + 2048 * 9, 70);
        turn(x, 3 + 8 * 90 + 2048 * 39, 69);
        turn(x, 4 + 8 * 60 + 2048 * 38, 99);
        turn(x, 4 + 8 * 255 + 2048, 60);
        turn(x, 5, 60);
        turn(x, 6, 24036);
        turn(x, 7, 24036);
        turn(x, 6 + 8 * 1, 48012);
        turn(x, 7 + 8 * 2, 60000);
        turn(x, 6 + 8 * 7, 60000);
        turn(x, 6 + 8 * 8, 24036);
        Check.due("simulate() of a pin, then a run", pinThenRun(), 1);
    }

    /** A pin of the first turn holds blocks back in the second one: looked for among the first seeds. */
    private static int pinThenRun() {
        for (long seed = 0; seed < 100000; seed++) {
            long x1 = seed * FACTOR + SUMMAND;
            long x2 = x1 * FACTOR + SUMMAND;
            int r1 = (int) (x1 >>> 33);
            int r2 = (int) (x2 >>> 33);
            if (r1 % 8 == 5 && r2 % 8 >= 6 && r2 / 8 % 8 == 0 && r1 / 32 % 256 < 8) {
                IdleDiscards x = new IdleDiscards();
                x.set(0, 0);
                x.set(1, 0);
                x.set(2, 40);
                x.set(3, 0);
                x.set(4, 0);
                x.write(0, 16);
                x.free(0, 16);
                int first = r1 / 32 % 256;
                int kept = Math.min(16 - first, 1 + r1 / 8192 % 9);
                return x.simulate(seed, 2) == 1000 * (16 - kept) + kept ? 1 : 0;
            }
        }
        return -1;
    }

    /** The recipe of the document, with calls of the face on an object that has had the same calls. */
    private static int byCalls(IdleDiscards x, long seed, int m) {
        int before = x.about(7);
        long number = seed;
        for (int i = 0; i < m; i++) {
            number = number * FACTOR + SUMMAND;
            int r = (int) (number >>> 33);
            int b = r / 8 % 256;
            int l = 1 + r / 2048 % 40;
            try {
                switch (r % 8) {
                    case 0: case 1: x.write(b, l); break;
                    case 2: case 3: case 4: x.free(b, l); break;
                    case 5: x.pin(r / 8 % 3, r / 32 % 256, 1 + r / 8192 % 9); break;
                    default: x.run(1 + r / 8 % 8); break;
                }
            } catch (IllegalStateException e) {
                continue;
            }
        }
        return 1000 * (x.about(7) - before) + x.about(3);
    }

    private static IdleDiscards prepared() {
        IdleDiscards x = new IdleDiscards();
        x.write(50, 99);
        x.free(60, 70);
        x.pin(2, 70, 9);
        x.run(4);
        return x;
    }

    private static void simulate() {
        IdleDiscards asked = prepared();
        String before = Check.view(asked);
        for (long seed : new long[] {0, 1, -1, 42, 123456789, Long.MIN_VALUE, Long.MAX_VALUE}) {
            for (int m : new int[] {1, 2, 7, 30, 60}) {
                Check.due("simulate(" + seed + ", " + m + ")", asked.simulate(seed, m), byCalls(prepared(), seed, m));
            }
        }
        Check.same("the state behind simulations", Check.view(asked), before);
        Check.due("undo(): simulations are not remembered", asked.undo(), 3);
    }

    private static void wrongSimulations() {
        IdleDiscards x = new IdleDiscards();
        for (int m : new int[] {0, -1, 61, Integer.MIN_VALUE, Integer.MAX_VALUE}) {
            Check.argument("simulate(1, " + m + ")", () -> x.simulate(1, m));
        }
    }
}
