/** The promises 1 and 6 to 10: a new object, about, block, range, pinned, setting. */
public final class ViewTest {
    public static void main(String[] args) {
        newObject();
        about();
        block();
        range();
        piecesOfARange();
        due();
        pinned();
        setting();
        wrongInputs();
        Check.end();
    }

    private static void newObject() {
        IdleDiscards x = new IdleDiscards();
        for (int what = 0; what <= 10; what++) {
            Check.due("about(" + what + ") at first", x.about(what), 0);
        }
        for (int b = 0; b <= 255; b++) {
            Check.due("block(b, 0) at first", x.block(b, 0), 0);
            Check.due("block(b, 1) at first", x.block(b, 1), 0);
            Check.due("block(b, 2) at first", x.block(b, 2), -1);
            Check.due("block(b, 3) at first", x.block(b, 3), 0);
        }
        for (int k = 0; k <= 2; k++) {
            Check.due("pinned(k, 0) at first", x.pinned(k, 0), -1);
            Check.due("pinned(k, 1) at first", x.pinned(k, 1), -1);
        }
        int[] settings = {2, 2, 8, 3, 2, 0};
        for (int what = 0; what <= 5; what++) {
            Check.due("setting(" + what + ") at first", x.setting(what), settings[what]);
        }
        Check.index("range(0, 0) at first", () -> x.range(0, 0));
        Check.state("undo() at first", x::undo);
        Check.state("restore(0) at first", () -> x.restore(0));
        Check.state("restore(1) at first", () -> x.restore(1));
        Check.due("clearText() at first", x.clearText(), 0);
        Check.due("NONE", IdleDiscards.NONE, -1);
        IdleDiscards y = new IdleDiscards();
        y.write(0, 9);
        Check.due("about(0) of another object", x.about(0), 0);
    }

    private static void aboutIs(IdleDiscards x, String when, int... want) {
        for (int what = 0; what < want.length; what++) {
            Check.due("about(" + what + ") " + when, x.about(what), want[what]);
        }
    }

    private static void about() {
        IdleDiscards x = new IdleDiscards();
        x.write(0, 64);
        aboutIs(x, "written", 64, 64, 0, 0, 0, 0, 0, 0, 0, 0, 0);
        x.free(0, 32);
        x.free(40, 8);
        aboutIs(x, "freed", 24, 64, 2, 40, 0, 0, 0, 0, 0, 0, 0);
        x.pin(0, 100, 10);
        x.pin(2, 105, 10);
        aboutIs(x, "pinned", 24, 64, 2, 40, 0, 0, 0, 0, 0, 15, 0);
        x.run(4);
        aboutIs(x, "behind 4 ticks", 24, 40, 2, 16, 4, 4, 1, 24, 0, 15, 0);
        x.run(2);
        aboutIs(x, "behind 6 ticks", 24, 24, 0, 0, 6, 6, 3, 40, 0, 15, 0);
        for (int i = 0; i < 17; i++) {
            x.write(100 + 2 * i, 1);
            x.free(100 + 2 * i, 1);
        }
        aboutIs(x, "behind 17 single blocks", 24, 41, 16, 16, 6, 0, 3, 40, 1, 15, 1);
    }

    private static void block() {
        IdleDiscards x = new IdleDiscards();
        x.write(10, 10);
        x.free(12, 2);
        x.free(16, 2);
        x.pin(1, 13, 4);
        int[][] want = {
            {9, 0, 0, -1, 0}, {10, 1, 1, -1, 0}, {11, 1, 1, -1, 0}, {12, 0, 1, 0, 0}, {13, 0, 1, 0, 1},
            {14, 1, 1, -1, 1}, {15, 1, 1, -1, 1}, {16, 0, 1, 1, 1}, {17, 0, 1, 1, 0}, {18, 1, 1, -1, 0},
            {19, 1, 1, -1, 0}, {20, 0, 0, -1, 0}, {0, 0, 0, -1, 0}, {255, 0, 0, -1, 0}};
        for (int[] row : want) {
            for (int what = 0; what <= 3; what++) {
                Check.due("block(" + row[0] + ", " + what + ")", x.block(row[0], what), row[what + 1]);
            }
        }
        x.pin(1, 255, 1);
        Check.due("block(255, 3)", x.block(255, 3), 1);
        Check.due("block(254, 3)", x.block(254, 3), 0);
        x.write(255, 1);
        x.free(255, 1);
        Check.due("block(255, 2)", x.block(255, 2), 2);
    }

    private static void rangeIs(IdleDiscards x, int k, int... want) {
        for (int what = 0; what < want.length; what++) {
            Check.due("range(" + k + ", " + what + ")", x.range(k, what), want[what]);
        }
    }

    private static void range() {
        IdleDiscards x = new IdleDiscards();
        x.write(0, 99);
        x.run(2);
        x.free(20, 10);
        x.run(3);
        x.free(0, 8);
        x.free(98, 1);
        rangeIs(x, 0, 0, 8, 5, 1, 2, 0);
        rangeIs(x, 1, 20, 10, 2, 1, 2, 1);
        rangeIs(x, 2, 98, 1, 5, 0, 0, 0);
        Check.index("range(3, 0)", () -> x.range(3, 0));
        x.write(157, 99);
        x.free(253, 3);
        rangeIs(x, 3, 253, 3, 5, 0, 0, 0);
        x.free(252, 1);
        rangeIs(x, 3, 252, 4, 5, 1, 1, 0);
    }

    private static void piecesOfARange() {
        IdleDiscards x = new IdleDiscards();
        x.write(0, 99);
        x.free(3, 30);
        rangeIs(x, 0, 3, 30, 0, 1, 7, 0);
        x.set(0, 0);
        rangeIs(x, 0, 3, 30, 0, 1, 30, 0);
        x.set(0, 1);
        rangeIs(x, 0, 3, 30, 0, 1, 14, 0);
        x.set(0, 3);
        rangeIs(x, 0, 3, 30, 0, 1, 3, 0);
        x.set(0, 4);
        rangeIs(x, 0, 3, 30, 0, 1, 1, 0);
        x.pin(0, 31, 1);
        rangeIs(x, 0, 3, 30, 0, 0, 0, 0);
        x.set(0, 2);
        rangeIs(x, 0, 3, 30, 0, 1, 6, 0);
        x.pin(1, 15, 2);
        rangeIs(x, 0, 3, 30, 0, 2, 4, 0);
        x.pin(2, 9, 1);
        rangeIs(x, 0, 3, 30, 0, 2, 3, 0);
        x.pin(1, 12, 1);
        x.pin(2, 20, 1);
        rangeIs(x, 0, 3, 30, 0, 3, 4, 0);
        x.pin(2, 4, 99);
        rangeIs(x, 0, 3, 30, 0, 0, 0, 0);
        x.pin(2, 33, 10);
        rangeIs(x, 0, 3, 30, 0, 2, 5, 0);
    }

    private static void due() {
        IdleDiscards x = new IdleDiscards();
        x.write(0, 9);
        x.free(0, 1);
        Check.due("range(0, 5) at 0", x.range(0, 5), 0);
        x.run(2);
        Check.due("range(0, 5) at 2", x.range(0, 5), 0);
        x.run(1);
        Check.due("range(0, 5) at 3", x.range(0, 5), 1);
        x.set(3, 4);
        Check.due("range(0, 5) if it waits 4", x.range(0, 5), 0);
        x.set(3, 0);
        x.free(5, 1);
        Check.due("range(1, 5) if it waits 0", x.range(1, 5), 1);
        x.set(2, 0);
        Check.due("range(1, 5), though there is no budget", x.range(1, 5), 1);
    }

    private static void pinned() {
        IdleDiscards x = new IdleDiscards();
        x.pin(2, 157, 99);
        x.pin(0, 0, 1);
        int[][] want = {{0, 1}, {-1, -1}, {157, 99}};
        for (int k = 0; k <= 2; k++) {
            Check.due("pinned(" + k + ", 0)", x.pinned(k, 0), want[k][0]);
            Check.due("pinned(" + k + ", 1)", x.pinned(k, 1), want[k][1]);
        }
        x.unpin(0);
        Check.due("pinned(0, 0) behind unpin", x.pinned(0, 0), -1);
        Check.due("pinned(0, 1) behind unpin", x.pinned(0, 1), -1);
        Check.due("block(0, 3) behind unpin", x.block(0, 3), 0);
    }

    private static void setting() {
        IdleDiscards x = new IdleDiscards();
        int[] values = {4, 20, 40, 50, 9, 2};
        for (int what = 0; what <= 5; what++) {
            x.set(what, values[what]);
        }
        for (int what = 0; what <= 5; what++) {
            Check.due("setting(" + what + ")", x.setting(what), values[what]);
        }
    }

    private static void wrongInputs() {
        IdleDiscards x = new IdleDiscards();
        x.write(0, 9);
        x.free(0, 1);
        String before = Check.view(x);
        for (int bad : new int[] {-1, 256, Integer.MIN_VALUE, Integer.MAX_VALUE}) {
            Check.argument("about(" + bad + ")", () -> x.about(bad));
            Check.index("block(" + bad + ", 0)", () -> x.block(bad, 0));
            Check.index("block(" + bad + ", 4)", () -> x.block(bad, 4));
            Check.argument("block(0, " + bad + ")", () -> x.block(0, bad));
            Check.index("range(" + bad + ", 0)", () -> x.range(bad, 0));
            Check.index("range(" + bad + ", 6)", () -> x.range(bad, 6));
            Check.argument("range(0, " + bad + ")", () -> x.range(0, bad));
            Check.index("pinned(" + bad + ", 0)", () -> x.pinned(bad, 0));
            Check.index("pinned(" + bad + ", 2)", () -> x.pinned(bad, 2));
            Check.argument("pinned(0, " + bad + ")", () -> x.pinned(0, bad));
            Check.argument("setting(" + bad + ")", () -> x.setting(bad));
        }
        Check.argument("about(11)", () -> x.about(11));
        Check.argument("block(0, 4)", () -> x.block(0, 4));
        Check.argument("block(255, 4)", () -> x.block(255, 4));
        Check.index("range(1, 0)", () -> x.range(1, 0));
        Check.argument("range(0, 6)", () -> x.range(0, 6));
        Check.index("pinned(3, 0)", () -> x.pinned(3, 0));
        Check.argument("pinned(0, 2)", () -> x.pinned(0, 2));
        Check.argument("setting(6)", () -> x.setting(6));
        Check.same("the state behind wrong questions", Check.view(x), before);
    }
}
