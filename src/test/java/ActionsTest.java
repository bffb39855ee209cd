/** The promises 11 to 18: write, free, pin, unpin, run, flush, set, undo. */
public final class ActionsTest {
    public static void main(String[] args) {
        write();
        writePartsRanges();
        free();
        freeMerges();
        dropping();
        droppingManyAtOnce();
        droppingBehindWrite();
        wrongSpans();
        pin();
        unpin();
        run();
        runIsBounded();
        runByOrders();
        runDropsBehindACommand();
        runBesidePins();
        flush();
        flushDropsBehindACommand();
        set();
        undo();
        undoTakesAllBack();
        Check.end();
    }

    private static void rangeIs(IdleDiscards x, int k, int first, int length, int time) {
        Check.due("range(" + k + ", 0)", x.range(k, 0), first);
        Check.due("range(" + k + ", 1)", x.range(k, 1), length);
        Check.due("range(" + k + ", 2)", x.range(k, 2), time);
    }

    private static void write() {
        IdleDiscards x = new IdleDiscards();
        Check.due("write(157, 99)", x.write(157, 99), 0);
        Check.due("write(255, 1)", x.write(255, 1), 0);
        Check.due("about(0)", x.about(0), 99);
        x.run(3);
        Check.due("about(5) behind run(3)", x.about(5), 3);
        Check.due("write(157, 99) again", x.write(157, 99), 0);
        Check.due("about(5): quiet no more, though nothing became different", x.about(5), 0);
        Check.due("about(4): the time goes on", x.about(4), 3);
        x.free(200, 10);
        Check.due("write(205, 51)", x.write(205, 51), 5);
        Check.due("block(205, 0)", x.block(205, 0), 1);
        Check.due("block(204, 0)", x.block(204, 0), 0);
        rangeIs(x, 0, 200, 5, 3);
    }

    private static void writePartsRanges() {
        IdleDiscards x = new IdleDiscards();
        x.write(0, 40);
        x.free(4, 8);
        x.free(20, 4);
        x.run(1);
        Check.due("write(7, 2)", x.write(7, 2), 2);
        Check.due("about(2) behind parting", x.about(2), 3);
        rangeIs(x, 0, 4, 3, 0);
        rangeIs(x, 1, 9, 3, 0);
        Check.due("write(4, 1)", x.write(4, 1), 1);
        rangeIs(x, 0, 5, 2, 0);
        Check.due("write(11, 12)", x.write(11, 12), 4);
        rangeIs(x, 1, 9, 2, 0);
        rangeIs(x, 2, 23, 1, 0);
        Check.due("write(0, 30)", x.write(0, 30), 5);
        Check.due("about(2) behind the last", x.about(2), 0);
        Check.due("about(0) behind the last", x.about(0), 40);
    }

    private static void free() {
        IdleDiscards x = new IdleDiscards();
        Check.due("free(0, 99) of nothing", x.free(0, 99), 0);
        Check.due("about(1)", x.about(1), 0);
        x.write(10, 5);
        Check.due("free(0, 13)", x.free(0, 13), 3);
        Check.due("free(0, 13) again", x.free(0, 13), 0);
        Check.due("free(157, 99)", x.free(157, 99), 0);
        Check.due("about(0)", x.about(0), 2);
        Check.due("about(1)", x.about(1), 5);
        x.run(2);
        Check.due("free(12, 1): it is not alive", x.free(12, 1), 0);
        Check.due("about(5) behind it", x.about(5), 0);
        rangeIs(x, 0, 10, 3, 0);
        Check.due("free(9, 99)", x.free(9, 99), 2);
        rangeIs(x, 0, 10, 5, 2);
        x.set(0, 0);
        x.flush();
        Check.due("free(10, 5) of what is discarded", x.free(10, 5), 0);
        Check.due("about(2) behind it", x.about(2), 0);
    }

    private static void freeMerges() {
        IdleDiscards x = Devices.full();
        x.free(0, 4);
        x.free(30, 4);
        x.free(6, 2);
        x.run(1);
        x.free(8, 4);
        rangeIs(x, 0, 0, 4, 0);
        rangeIs(x, 1, 6, 6, 1);
        rangeIs(x, 2, 30, 4, 0);
        x.run(1);
        x.free(4, 1);
        rangeIs(x, 0, 0, 5, 2);
        rangeIs(x, 1, 6, 6, 1);
        x.run(1);
        Check.due("free(0, 20)", x.free(0, 20), 9);
        rangeIs(x, 0, 0, 20, 3);
        rangeIs(x, 1, 30, 4, 0);
        Check.due("free(29, 1)", x.free(29, 1), 1);
        rangeIs(x, 1, 29, 5, 3);
        // All blocks of a range have its time: what is parted from it later has it as well.
        x.write(29, 1);
        rangeIs(x, 1, 30, 4, 3);
        x.write(32, 1);
        rangeIs(x, 2, 33, 1, 3);
        x.write(0, 19);
        rangeIs(x, 0, 19, 1, 3);
        IdleDiscards y = Devices.full();
        y.free(0, 4);
        y.run(1);
        y.free(4, 1);
        y.write(4, 1);
        rangeIs(y, 0, 0, 4, 1);
        y.write(0, 3);
        rangeIs(y, 0, 3, 1, 1);
    }

    private static void dropping() {
        IdleDiscards x = Devices.full();
        for (int i = 0; i < 16; i++) {
            x.free(4 * i, 2);
        }
        Check.due("about(8) with 16 ranges", x.about(8), 0);
        Check.due("free(100, 1)", x.free(100, 1), 1);
        Check.due("about(2)", x.about(2), 16);
        Check.due("about(8)", x.about(8), 1);
        Check.due("about(10)", x.about(10), 1);
        Check.due("block(100, 0)", x.block(100, 0), 0);
        Check.due("block(100, 1)", x.block(100, 1), 1);
        Check.due("block(100, 2)", x.block(100, 2), -1);
        Check.due("free(110, 3)", x.free(110, 3), 3);
        Check.due("block(0, 2): the lowest of the shortest is dropped", x.block(0, 2), -1);
        Check.due("block(1, 2)", x.block(1, 2), -1);
        Check.due("block(4, 2)", x.block(4, 2), 0);
        Check.due("about(10)", x.about(10), 3);
        Check.due("free(100, 1): it is lost", x.free(100, 1), 0);
        Check.due("write(100, 1): it was in no range", x.write(100, 1), 0);
        Check.due("about(10): lost no more", x.about(10), 2);
        Check.due("write(0, 40)", x.write(0, 40), 18);
        Check.due("free(100, 1), written once more", x.free(100, 1), 1);
        Check.due("block(100, 2)", x.block(100, 2), 6);
        Check.due("about(8) at the end", x.about(8), 2);
        IdleDiscards y = Devices.full();
        for (int i = 0; i < 16; i++) {
            y.free(4 * i, 2);
        }
        y.free(255, 1);
        Check.due("block(255, 2): the shortest is the last", y.block(255, 2), -1);
        Check.due("about(3)", y.about(3), 32);
        y.free(253, 2);
        Check.due("block(0, 2)", y.block(0, 2), -1);
        Check.due("block(254, 2)", y.block(254, 2), 15);
    }

    private static void droppingManyAtOnce() {
        IdleDiscards x = new IdleDiscards();
        for (int i = 0; i < 20; i++) {
            x.write(2 * i, 1);
        }
        x.write(6, 2);
        Check.due("free(0, 40) with 19 rows", x.free(0, 40), 21);
        Check.due("about(2)", x.about(2), 16);
        Check.due("about(8)", x.about(8), 3);
        Check.due("about(10)", x.about(10), 3);
        Check.due("range(0, 0)", x.range(0, 0), 6);
        Check.due("range(0, 1)", x.range(0, 1), 3);
        Check.due("range(1, 0)", x.range(1, 0), 10);
    }

    private static void droppingBehindWrite() {
        IdleDiscards x = Devices.full();
        for (int i = 0; i < 15; i++) {
            x.free(4 * i, 3);
        }
        x.free(100, 9);
        Check.due("write(102, 1)", x.write(102, 1), 1);
        Check.due("about(2)", x.about(2), 16);
        Check.due("block(100, 2): dropped, for it is the shortest", x.block(100, 2), -1);
        Check.due("block(103, 2)", x.block(103, 2), 15);
        Check.due("about(10)", x.about(10), 2);
        Check.due("about(8)", x.about(8), 1);
    }

    private static void wrongSpans() {
        IdleDiscards x = Devices.full();
        x.free(3, 9);
        x.run(1);
        String before = Check.view(x);
        int[] blocks = {-1, 256, Integer.MIN_VALUE, Integer.MAX_VALUE};
        for (int b : blocks) {
            Check.index("write(" + b + ", 1)", () -> x.write(b, 1));
            Check.index("free(" + b + ", 1)", () -> x.free(b, 1));
            Check.index("pin(0, " + b + ", 1)", () -> x.pin(0, b, 1));
            Check.index("write(" + b + ", 0)", () -> x.write(b, 0));
            Check.index("free(" + b + ", 100)", () -> x.free(b, 100));
            Check.index("pin(0, " + b + ", 0)", () -> x.pin(0, b, 0));
        }
        int[] lengths = {0, -1, 100, Integer.MIN_VALUE, Integer.MAX_VALUE};
        for (int n : lengths) {
            Check.argument("write(0, " + n + ")", () -> x.write(0, n));
            Check.argument("free(0, " + n + ")", () -> x.free(0, n));
            Check.argument("pin(0, 0, " + n + ")", () -> x.pin(0, 0, n));
            Check.argument("write(255, " + n + ")", () -> x.write(255, n));
            Check.argument("free(255, " + n + ")", () -> x.free(255, n));
            Check.argument("pin(0, 255, " + n + ")", () -> x.pin(0, 255, n));
        }
        Check.state("write(255, 2)", () -> x.write(255, 2));
        Check.state("write(158, 99)", () -> x.write(158, 99));
        Check.state("free(255, 2)", () -> x.free(255, 2));
        Check.state("free(158, 99)", () -> x.free(158, 99));
        Check.state("pin(0, 255, 2)", () -> x.pin(0, 255, 2));
        Check.state("pin(0, 158, 99)", () -> x.pin(0, 158, 99));
        Check.same("the state behind wrong spans", Check.view(x), before);
        Check.due("undo(): only five actions were remembered", x.undo(), 4);
    }

    private static void pin() {
        IdleDiscards x = new IdleDiscards();
        Check.due("pin(0, 10, 5)", x.pin(0, 10, 5), 5);
        Check.due("pin(1, 12, 5)", x.pin(1, 12, 5), 7);
        Check.due("pin(2, 157, 99)", x.pin(2, 157, 99), 106);
        Check.due("pin(2, 255, 1)", x.pin(2, 255, 1), 8);
        Check.due("pin(0, 12, 5)", x.pin(0, 12, 5), 6);
        Check.due("pin(0, 12, 5) again", x.pin(0, 12, 5), 6);
        Check.due("pinned(2, 0)", x.pinned(2, 0), 255);
        Check.due("about(5)", x.about(5), 0);
        x.run(2);
        Check.due("pin(0, 0, 1)", x.pin(0, 0, 1), 7);
        Check.due("block(0, 3)", x.block(0, 3), 1);
        Check.due("about(5): a pin does not end the quiet", x.about(5), 2);
        String before = Check.view(x);
        Check.index("pin(3, 0, 1)", () -> x.pin(3, 0, 1));
        Check.index("pin(-1, 0, 1)", () -> x.pin(-1, 0, 1));
        Check.index("pin(3, 0, 0)", () -> x.pin(3, 0, 0));
        Check.index("pin(3, 255, 2)", () -> x.pin(3, 255, 2));
        Check.same("the state behind wrong pins", Check.view(x), before);
    }

    private static void unpin() {
        IdleDiscards x = new IdleDiscards();
        Check.state("unpin(0) at first", () -> x.unpin(0));
        x.pin(0, 10, 5);
        x.pin(1, 12, 5);
        Check.due("unpin(0)", x.unpin(0), 5);
        Check.state("unpin(0) again", () -> x.unpin(0));
        Check.due("unpin(1)", x.unpin(1), 0);
        Check.index("unpin(3)", () -> x.unpin(3));
        Check.index("unpin(-1)", () -> x.unpin(-1));
        Check.due("undo() of unpin(1)", x.undo(), 3);
        Check.due("pinned(1, 0) behind undo", x.pinned(1, 0), 12);
        Check.due("pinned(0, 0) behind undo", x.pinned(0, 0), -1);
    }

    private static void run() {
        IdleDiscards x = new IdleDiscards();
        x.write(0, 64);
        x.free(0, 64);
        Check.due("run(3): not due before the tick 3", x.run(3), 0);
        Check.due("run(1): 6 granules of 4 for the budget 8", x.run(1), 24);
        Check.due("run(1)", x.run(1), 24);
        Check.due("run(1): the last 4 granules", x.run(1), 16);
        Check.due("run(60)", x.run(60), 0);
        Check.due("about(4)", x.about(4), 66);
        Check.due("about(5)", x.about(5), 66);
        Check.due("about(6)", x.about(6), 3);
        Check.due("about(7)", x.about(7), 64);
        Check.argument("run(0)", () -> x.run(0));
        Check.argument("run(-1)", () -> x.run(-1));
        Check.argument("run(61)", () -> x.run(61));
        Check.argument("run(least)", () -> x.run(Integer.MIN_VALUE));
        Check.due("about(4) behind wrong runs", x.about(4), 66);
        Check.due("undo(): seven actions, none of them wrong", x.undo(), 6);

        IdleDiscards y = new IdleDiscards();
        y.set(3, 0);
        y.write(0, 8);
        y.free(0, 8);
        Check.due("run(2): not quiet for 2 ticks yet", y.run(2), 0);
        Check.due("run(1): quiet for 2 ticks", y.run(1), 8);
        y.set(1, 0);
        y.write(0, 8);
        y.free(0, 8);
        Check.due("run(1) if it need not be quiet", y.run(1), 8);
    }

    /** A device with a long range that is due at once, without a cost or a wait for quiet. */
    private static IdleDiscards ready(int granule, int budget, int cost) {
        IdleDiscards x = new IdleDiscards();
        x.set(0, granule);
        x.set(1, 0);
        x.set(2, budget);
        x.set(3, 0);
        x.set(4, cost);
        x.write(0, 99);
        x.free(0, 99);
        return x;
    }

    private static void runIsBounded() {
        IdleDiscards x = ready(0, 40, 0);
        Check.due("run(1): 16, 16 and 8", x.run(1), 40);
        Check.due("about(6)", x.about(6), 3);
        IdleDiscards y = ready(0, 40, 9);
        Check.due("run(1): 9 + 16, then 9 + 6", y.run(1), 22);
        Check.due("about(6)", y.about(6), 2);
        IdleDiscards z = ready(2, 3, 2);
        Check.due("run(1) with one over the cost", z.run(1), 4);
        IdleDiscards e = ready(2, 2, 2);
        Check.due("run(60) with the budget of the cost", e.run(60), 0);
        IdleDiscards f = ready(2, 0, 0);
        Check.due("run(60) without a budget", f.run(60), 0);
        IdleDiscards g = ready(4, 40, 9);
        Check.due("run(1): all 6 granules of 16", g.run(1), 96);
        Check.due("about(3): what is no granule stays", g.about(3), 3);
        IdleDiscards i = ready(0, 40, 0);
        i.set(1, 3);
        Check.due("run(3): there is no budget before it is quiet", i.run(3), 0);
        Check.due("run(1)", i.run(1), 40);
        IdleDiscards j = ready(0, 40, 0);
        j.write(0, 99);
        j.write(200, 56);
        j.free(200, 56);
        Check.due("run(1) near the end of the device", j.run(1), 40);
        Check.due("run(1) up to the end of the device", j.run(1), 16);
        IdleDiscards h = ready(1, 9, 3);
        Check.due("run(1): 6 granules, then nothing", h.run(1), 12);
        Check.due("about(6)", h.about(6), 1);
        Check.due("run(2)", h.run(2), 24);
    }

    /** Three ranges: 8 blocks of the time 1, 20 of the time 0 with a pin in them, 12 of the time 0. */
    private static IdleDiscards ordered(int order) {
        IdleDiscards x = Devices.full();
        x.free(40, 24);
        x.free(80, 12);
        x.run(1);
        x.free(0, 8);
        x.pin(0, 44, 4);
        x.set(1, 0);
        x.set(2, 5);
        x.set(3, 0);
        x.set(4, 0);
        x.set(5, order);
        return x;
    }

    private static void runByOrders() {
        IdleDiscards a = ordered(0);
        a.set(2, 1);
        Check.due("run(1) by the order 0", a.run(1), 4);
        Check.due("block(40, 1): the first piece of the earliest", a.block(40, 1), 0);
        Check.due("run(1): the same range has a second piece", a.run(1), 4);
        Check.due("block(48, 1)", a.block(48, 1), 0);
        IdleDiscards b = ordered(1);
        Check.due("run(1) by the order 1", b.run(1), 20);
        Check.due("block(48, 1)", b.block(48, 1), 0);
        Check.due("block(60, 1): 4 granules of the longest piece, then the next longest", b.block(60, 1), 0);
        Check.due("block(80, 1)", b.block(80, 1), 0);
        Check.due("block(84, 1)", b.block(84, 1), 1);
        IdleDiscards c = ordered(2);
        Check.due("run(1) by the order 2", c.run(1), 20);
        Check.due("block(7, 1)", c.block(7, 1), 0);
        Check.due("block(40, 1)", c.block(40, 1), 0);
        Check.due("block(48, 1)", c.block(48, 1), 0);
        Check.due("block(56, 1)", c.block(56, 1), 1);
        IdleDiscards d = ordered(2);
        d.set(3, 1);
        Check.due("run(1) by the order 2, the lowest range not due", d.run(1), 20);
        Check.due("block(0, 1)", d.block(0, 1), 1);
        Check.due("block(59, 1)", d.block(59, 1), 0);
        Check.due("block(63, 1)", d.block(63, 1), 0);
        IdleDiscards e = ordered(1);
        e.set(2, 1);
        e.write(60, 4);
        Check.due("run(1): the longest pieces are alike", e.run(1), 4);
        Check.due("block(48, 1): the lower one", e.block(48, 1), 0);
        Check.due("block(80, 1)", e.block(80, 1), 1);
    }

    private static void runDropsBehindACommand() {
        IdleDiscards x = Devices.withOneToPart();
        Check.due("run(4)", x.run(4), 4);
        Check.due("about(2)", x.about(2), 16);
        Check.due("about(8)", x.about(8), 1);
        Check.due("block(100, 2): the lowest of the shortest", x.block(100, 2), -1);
        Check.due("block(100, 1)", x.block(100, 1), 1);
        Check.due("block(4, 1)", x.block(4, 1), 0);
        Check.due("block(8, 2)", x.block(8, 2), 1);
        Check.due("range(0, 2): parted, with the same time", x.range(0, 2), 0);
        Check.due("range(1, 2)", x.range(1, 2), 0);
    }

    private static void runBesidePins() {
        IdleDiscards x = Devices.full();
        x.free(0, 40);
        x.pin(0, 5, 1);
        x.pin(1, 15, 10);
        Check.due("run(10): 1 granule, 1, and 3 for the pieces", x.run(10), 20);
        Check.due("block(3, 1)", x.block(3, 1), 0);
        Check.due("block(4, 1): in a granule with a pinned block", x.block(4, 1), 1);
        Check.due("block(8, 1)", x.block(8, 1), 0);
        Check.due("block(12, 1)", x.block(12, 1), 1);
        Check.due("block(27, 1)", x.block(27, 1), 1);
        Check.due("block(28, 1)", x.block(28, 1), 0);
        x.unpin(0);
        Check.due("run(1) behind unpin", x.run(1), 4);
        Check.due("block(4, 1)", x.block(4, 1), 0);
    }

    private static void flush() {
        IdleDiscards x = Devices.full();
        Check.due("flush() of nothing", x.flush(), 0);
        x.run(1);
        x.free(0, 99);
        x.free(120, 5);
        x.run(1);
        x.set(2, 0);
        Check.due("flush(): 16 and 8 granules, and 1", x.flush(), 3);
        Check.due("about(4): no time goes by", x.about(4), 2);
        Check.due("about(5): quiet as before", x.about(5), 1);
        Check.due("about(6)", x.about(6), 3);
        Check.due("about(7)", x.about(7), 100);
        Check.due("about(3)", x.about(3), 4);
        Check.due("flush() again", x.flush(), 0);
        x.undo();
        Check.due("about(7): an action even if it sends nothing", x.about(7), 100);
        x.undo();
        Check.due("about(7)", x.about(7), 0);
        x.pin(0, 60, 8);
        x.set(0, 0);
        Check.due("flush() beside a pin: 60 in 4, 31 in 2, 5 in 1", x.flush(), 7);
        Check.due("about(3) behind it", x.about(3), 8);
        IdleDiscards y = Devices.full();
        y.free(240, 16);
        Check.due("flush() at the end of the device", y.flush(), 1);
        Check.due("about(7)", y.about(7), 16);
        y.free(0, 4);
        Check.due("flush() at the beginning", y.flush(), 1);
    }

    private static void flushDropsBehindACommand() {
        IdleDiscards x = Devices.withOneToPart();
        Check.due("flush()", x.flush(), 1);
        Check.due("about(2)", x.about(2), 16);
        Check.due("about(8)", x.about(8), 1);
        Check.due("about(10)", x.about(10), 2);
        Check.due("block(100, 2)", x.block(100, 2), -1);
        IdleDiscards y = Devices.full();
        y.free(0, 5);
        y.free(7, 10);
        for (int i = 0; i < 14; i++) {
            y.free(100 + 4 * i, 1);
        }
        // The first command leaves the block 4, the second one parts the range: the block 4 is dropped behind it.
        Check.due("flush() with two commands", y.flush(), 2);
        Check.due("block(4, 1)", y.block(4, 1), 1);
        Check.due("block(4, 2)", y.block(4, 2), -1);
        Check.due("block(7, 2)", y.block(7, 2), 0);
        Check.due("about(8)", y.about(8), 1);
    }

    private static void set() {
        IdleDiscards x = new IdleDiscards();
        int[] first = {2, 2, 8, 3, 2, 0};
        int[] most = {4, 20, 40, 50, 9, 2};
        x.run(2);
        for (int what = 0; what <= 5; what++) {
            int w = what;
            Check.argument("set(" + w + ", -1)", () -> x.set(w, -1));
            Check.argument("set(" + w + ", too much)", () -> x.set(w, most[w] + 1));
            Check.argument("set(" + w + ", greatest)", () -> x.set(w, Integer.MAX_VALUE));
            Check.argument("set(" + w + ", least)", () -> x.set(w, Integer.MIN_VALUE));
            Check.due("setting(" + w + ")", x.setting(w), first[w]);
            Check.due("set(" + w + ", most)", x.set(w, most[w]), first[w]);
            Check.due("set(" + w + ", 0)", x.set(w, 0), most[w]);
            Check.due("setting(" + w + ")", x.setting(w), 0);
        }
        Check.due("about(5): set() does not end the quiet", x.about(5), 2);
        for (int what : new int[] {-1, 6, Integer.MIN_VALUE, Integer.MAX_VALUE}) {
            Check.argument("set(" + what + ", 0)", () -> x.set(what, 0));
        }
        Check.due("undo(): thirteen actions", x.undo(), 12);
        Check.due("setting(5) behind undo", x.setting(5), 2);
    }

    private static void undo() {
        IdleDiscards x = new IdleDiscards();
        for (int i = 1; i <= 16; i++) {
            x.run(1);
        }
        for (int left = 13; left >= 0; left--) {
            Check.due("undo()", x.undo(), left);
            Check.due("about(4) behind undo", x.about(4), left + 2);
        }
        Check.state("undo() of what is forgotten", x::undo);
        Check.due("about(4) behind undo that throws", x.about(4), 2);
        x.set(0, 2);
        Check.due("undo() of what made nothing different", x.undo(), 0);
        x.free(0, 1);
        x.append('D');
        x.save(0);
        Check.due("undo(): what is no action is not remembered", x.undo(), 0);
        Check.due("clearText(): undo leaves the text alone", x.clearText(), 1);
        Check.due("restore(0): undo leaves the slots alone", x.restore(0), 2);
        for (int i = 0; i < 10; i++) {
            x.run(1);
        }
        x.undo();
        x.undo();
        x.run(5);
        Check.due("undo() behind other actions", x.undo(), 8);
        Check.due("about(4)", x.about(4), 10);
    }

    private static void undoTakesAllBack() {
        IdleDiscards x = Devices.full();
        x.free(10, 20);
        x.run(4);
        x.pin(0, 20, 9);
        String[] views = new String[8];
        for (int i = 0; i < 8; i++) {
            views[i] = Check.view(x);
            act(x, i);
        }
        for (int i = 7; i >= 0; i--) {
            x.undo();
            Check.same("the view behind the undo of the action " + i, Check.view(x), views[i]);
        }
        IdleDiscards y = Devices.withOneToPart();
        String before = Check.view(y);
        y.free(90, 1);
        Check.due("about(8) behind a drop", y.about(8), 1);
        y.undo();
        Check.same("the view behind the undo of a drop", Check.view(y), before);
        y.flush();
        Check.due("about(8) behind a drop by a command", y.about(8), 1);
        y.undo();
        Check.same("the view behind the undo of a drop by a command", Check.view(y), before);
    }

    private static void act(IdleDiscards x, int i) {
        switch (i) {
            case 0: x.write(18, 5); break;
            case 1: x.free(70, 30); break;
            case 2: x.pin(1, 5, 50); break;
            case 3: x.unpin(0); break;
            case 4: x.run(20); break;
            case 5: x.pin(1, 255, 1); break;
            case 6: x.flush(); break;
            default: x.set(5, 2); break;
        }
    }
}
