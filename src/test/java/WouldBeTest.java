/** The promises 19 to 24: next, goneIn, coming, bestGranule, ifWritten, stuck. */
public final class WouldBeTest {
    public static void main(String[] args) {
        next();
        nextByOrders();
        nextIsFar();
        goneIn();
        coming();
        bestGranule();
        ifWritten();
        stuck();
        wrongInputs();
        nothingChanges();
        Check.end();
    }

    private static void nextIs(IdleDiscards x, String when, int... want) {
        for (int what = 0; what <= 2; what++) {
            Check.due("next(" + what + ") " + when, x.next(what), want[what]);
        }
    }

    private static void next() {
        IdleDiscards x = Devices.full();
        nextIs(x, "of nothing", -1, -1, -1);
        x.free(3, 3);
        nextIs(x, "of less than a granule", -1, -1, -1);
        x.free(10, 50);
        nextIs(x, "behind free", 12, 24, 3);
        x.run(2);
        nextIs(x, "at 2", 12, 24, 3);
        x.run(1);
        nextIs(x, "at 3", 12, 24, 3);
        x.run(1);
        nextIs(x, "at 4", 36, 24, 4);
        x.run(1);
        nextIs(x, "at the end", -1, -1, -1);
        x.set(0, 0);
        nextIs(x, "with granules of 1", 3, 3, 5);
        x.write(100, 1);
        nextIs(x, "when it is not quiet", 3, 3, 7);
        x.set(2, 5);
        nextIs(x, "with the budget 5", 3, 3, 7);
        x.set(2, 4);
        nextIs(x, "with the budget 4", 3, 2, 7);
        x.set(2, 2);
        nextIs(x, "with the budget 2", -1, -1, -1);
        x.set(4, 0);
        x.set(1, 0);
        nextIs(x, "at once", 3, 2, 5);
        x.free(110, 20);
        x.set(2, 40);
        x.pin(0, 0, 99);
        nextIs(x, "of 20 blocks, 16 at most", 110, 16, 8);
        x.pin(1, 110, 3);
        nextIs(x, "behind a pin", 113, 16, 8);
    }

    private static void nextByOrders() {
        IdleDiscards x = Devices.full();
        x.free(100, 8);
        x.free(200, 12);
        x.run(1);
        x.free(0, 8);
        x.set(1, 0);
        x.set(3, 0);
        nextIs(x, "by the order 0", 100, 8, 1);
        x.set(5, 1);
        nextIs(x, "by the order 1", 200, 12, 1);
        x.set(5, 2);
        nextIs(x, "by the order 2", 0, 8, 1);
        x.set(3, 1);
        nextIs(x, "by the order 2, of what is due", 100, 8, 1);
    }

    private static void nextIsFar() {
        IdleDiscards x = Devices.full();
        x.free(0, 4);
        x.set(3, 50);
        nextIs(x, "if it waits 50", 0, 4, 50);
        x.run(50);
        nextIs(x, "if it has waited 50", 0, 4, 50);
        x.set(1, 20);
        x.write(200, 1);
        nextIs(x, "20 ticks from now", 0, 4, 70);
    }

    private static void goneIn() {
        IdleDiscards x = Devices.full();
        x.free(0, 50);
        x.free(99, 3);
        Check.due("goneIn(0)", x.goneIn(0), 4);
        Check.due("goneIn(23)", x.goneIn(23), 4);
        Check.due("goneIn(24)", x.goneIn(24), 5);
        Check.due("goneIn(47)", x.goneIn(47), 5);
        Check.due("goneIn(48): in no piece", x.goneIn(48), -1);
        Check.due("goneIn(60): alive", x.goneIn(60), -1);
        Check.due("goneIn(99): in no piece", x.goneIn(99), -1);
        x.run(4);
        Check.due("goneIn(0) at 4", x.goneIn(0), 0);
        Check.due("goneIn(24) at 4", x.goneIn(24), 1);
        Check.due("goneIn(255) of a new object", new IdleDiscards().goneIn(255), 0);

        IdleDiscards y = Devices.full();
        y.set(0, 0);
        y.set(1, 0);
        y.set(2, 1);
        y.set(3, 0);
        y.set(4, 0);
        y.free(100, 99);
        y.free(199, 9);
        Check.due("goneIn(199): the tick 100 is enough", y.goneIn(199), 100);
        Check.due("goneIn(200): 100 are not enough", y.goneIn(200), -1);
        y.set(3, 50);
        Check.due("goneIn(149) if it waits 50", y.goneIn(149), 100);
        Check.due("goneIn(150) if it waits 50", y.goneIn(150), -1);

        Check.due("goneIn(100): dropped behind the command that parts a range", Devices.withOneToPart().goneIn(100), -1);
        IdleDiscards z = Devices.withOneToPart();
        z.set(0, 1);
        Check.due("goneIn(100): the first command parts nothing", z.goneIn(100), 5);
        Check.due("goneIn(1): in no granule", z.goneIn(1), -1);
        z.set(2, 3);
        for (int b = 0; b <= 255; b++) {
            Check.due("goneIn(" + b + ")", z.goneIn(b), ticksUntilGone(b));
        }
    }

    /** Finds out by letting the ticks go by. */
    private static int ticksUntilGone(int b) {
        IdleDiscards x = Devices.withOneToPart();
        x.set(0, 1);
        x.set(2, 3);
        for (int ticks = 0; ticks <= 100; ticks++) {
            if (x.block(b, 1) == 0) {
                return ticks;
            }
            x.run(1);
        }
        return -1;
    }

    private static void comingIs(IdleDiscards x, int n, int... want) {
        for (int what = 0; what <= 3; what++) {
            Check.due("coming(" + n + ", " + what + ")", x.coming(n, what), want[what]);
        }
    }

    private static void coming() {
        IdleDiscards x = Devices.full();
        comingIs(x, 100, 0, 0, 0, 0);
        x.free(0, 50);
        x.free(99, 3);
        comingIs(x, 1, 0, 0, 2, 53);
        comingIs(x, 3, 0, 0, 2, 53);
        comingIs(x, 4, 24, 1, 2, 29);
        comingIs(x, 5, 48, 2, 2, 5);
        comingIs(x, 100, 48, 2, 2, 5);
        x.run(4);
        comingIs(x, 1, 24, 1, 2, 5);
        x.set(0, 0);
        comingIs(x, 1, 6, 1, 2, 23);
        x.set(2, 40);
        comingIs(x, 1, 29, 3, 0, 0);
        x.set(3, 50);
        comingIs(x, 46, 0, 0, 2, 29);
        comingIs(x, 47, 29, 3, 0, 0);
    }

    private static void bestGranule() {
        IdleDiscards x = Devices.full();
        Check.due("bestGranule(60) of nothing", x.bestGranule(60), 4);
        x.free(1, 30);
        Check.due("bestGranule(3): none is due before", x.bestGranule(3), 4);
        Check.due("bestGranule(4): 6, 12, 24, 16, 0 blocks", x.bestGranule(4), 2);
        Check.due("bestGranule(5): 12, 24, 24, 16, 0 blocks", x.bestGranule(5), 2);
        Check.due("bestGranule(6): 18, 28, 24, 16, 0 blocks", x.bestGranule(6), 1);
        Check.due("bestGranule(60): 30 blocks", x.bestGranule(60), 0);
        x.set(0, 4);
        Check.due("bestGranule(4), whatever the granule is", x.bestGranule(4), 2);
        x.free(0, 1);
        x.free(31, 1);
        Check.due("bestGranule(4): 24, 32, 32 blocks for 2, 3, 4", x.bestGranule(4), 4);
        x.pin(0, 20, 1);
        Check.due("bestGranule(4): 24, 24, 16 blocks for 2, 3, 4", x.bestGranule(4), 3);
    }

    private static void ifWritten() {
        IdleDiscards x = Devices.full();
        Check.due("ifWritten(0, 99) of nothing", x.ifWritten(0, 99), 0);
        x.free(10, 10);
        x.free(30, 5);
        Check.due("ifWritten(0, 5)", x.ifWritten(0, 5), 2);
        Check.due("ifWritten(12, 2)", x.ifWritten(12, 2), 3);
        Check.due("ifWritten(10, 2)", x.ifWritten(10, 2), 2);
        Check.due("ifWritten(10, 10)", x.ifWritten(10, 10), 1);
        Check.due("ifWritten(0, 99)", x.ifWritten(0, 99), 0);
        Check.due("ifWritten(15, 17)", x.ifWritten(15, 17), 2);
        Check.due("ifWritten(157, 99)", x.ifWritten(157, 99), 2);
        for (int i = 0; i < 14; i++) {
            x.free(100 + 4 * i, 3);
        }
        Check.due("ifWritten(12, 2) with 16 ranges: one is dropped", x.ifWritten(12, 2), 16);
        Check.due("ifWritten(101, 1) with 16 ranges", x.ifWritten(101, 1), 16);
        Check.due("ifWritten(100, 7)", x.ifWritten(100, 7), 14);
        Check.index("ifWritten(-1, 1)", () -> x.ifWritten(-1, 1));
        Check.index("ifWritten(256, 0)", () -> x.ifWritten(256, 0));
        Check.argument("ifWritten(0, 0)", () -> x.ifWritten(0, 0));
        Check.argument("ifWritten(255, 100)", () -> x.ifWritten(255, 100));
        Check.argument("ifWritten(0, greatest)", () -> x.ifWritten(0, Integer.MAX_VALUE));
        Check.state("ifWritten(255, 2)", () -> x.ifWritten(255, 2));
        Check.state("ifWritten(158, 99)", () -> x.ifWritten(158, 99));
    }

    private static void stuck() {
        IdleDiscards x = Devices.full();
        Check.due("stuck() of nothing", x.stuck(), 0);
        x.free(0, 10);
        Check.due("stuck(): 8 and 9", x.stuck(), 2);
        x.free(13, 6);
        Check.due("stuck(): and all of 13 to 18", x.stuck(), 8);
        x.free(12, 1);
        Check.due("stuck(): and 16 to 18", x.stuck(), 5);
        x.pin(0, 0, 1);
        Check.due("stuck(): and 0 to 3", x.stuck(), 9);
        x.set(0, 0);
        Check.due("stuck() with granules of 1", x.stuck(), 1);
        x.set(0, 4);
        Check.due("stuck() with granules of 16", x.stuck(), 17);
        x.set(0, 3);
        Check.due("stuck() with granules of 8", x.stuck(), 17);
        x.unpin(0);
        Check.due("stuck() without a pin", x.stuck(), 9);
    }

    private static void wrongInputs() {
        IdleDiscards x = Devices.full();
        for (int bad : new int[] {-1, 256, Integer.MIN_VALUE, Integer.MAX_VALUE}) {
            Check.argument("next(" + bad + ")", () -> x.next(bad));
            Check.index("goneIn(" + bad + ")", () -> x.goneIn(bad));
            Check.argument("coming(" + bad + ", 0)", () -> x.coming(bad, 0));
            Check.argument("coming(1, " + bad + ")", () -> x.coming(1, bad));
            Check.argument("bestGranule(" + bad + ")", () -> x.bestGranule(bad));
        }
        Check.argument("next(3)", () -> x.next(3));
        Check.argument("coming(0, 0)", () -> x.coming(0, 0));
        Check.argument("coming(101, 0)", () -> x.coming(101, 0));
        Check.argument("coming(1, 4)", () -> x.coming(1, 4));
        Check.argument("bestGranule(0)", () -> x.bestGranule(0));
        Check.argument("bestGranule(61)", () -> x.bestGranule(61));
    }

    private static void nothingChanges() {
        IdleDiscards x = Devices.withOneToPart();
        x.pin(1, 108, 4);
        x.run(2);
        String before = Check.view(x);
        x.next(0);
        x.goneIn(4);
        x.coming(100, 0);
        x.bestGranule(60);
        x.ifWritten(3, 3);
        x.stuck();
        x.runScript(3, 100001200001500000L);
        x.simulate(7, 60);
        x.save(0);
        Check.same("the state behind questions", Check.view(x), before);
        Check.due("undo(): questions are not remembered", x.undo(), 13);
        Check.due("about(4): the run is taken back", x.about(4), 0);
    }
}
