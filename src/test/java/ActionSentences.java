/** The sentences of the promises 11 to 17: write, free, pin, unpin, run, flush, set. */
final class ActionSentences {

    private ActionSentences() {
    }

    static void all(Doc doc) {
        doc.section("Promise 11: write");
        write(doc);
        doc.section("Promise 12: free");
        free(doc);
        doc.section("Promise 13: pin");
        pin(doc);
        doc.section("Promise 14: unpin");
        unpin(doc);
        doc.section("Promise 15: run");
        run(doc);
        doc.section("Promise 16: flush");
        flush(doc);
        doc.section("Promise 17: set");
        set(doc);
    }

    private static void write(Doc doc) {
        doc.says("Writes a span.");
        new Run("write(10, 5); alive: 10-14; held: 10-14; write(13, 5); alive: 10-17; undo() = 1; alive: 10-14");
        doc.says("- `b`: first block");
        new Run("write(0, 1); alive: 0; write(255, 1); alive: 0 255");
        doc.says("- `n`: length, 1 to 99");
        new Run("write(100, 1); alive: 100; write(100, 99); alive: 100-198; write(0, 99); alive: 0-98 100-198");
        doc.says("Returns how many of its blocks were in ranges.");
        new Run("write(0, 9) = 0; write(0, 9) = 0; free(2, 3); write(0, 9) = 3; write(0, 9) = 0");
        new Run(Given.FULL + "free(0, 99); write(0, 99) = 99; free(10, 5); free(20, 5); write(14, 7) = 2; write(0, 99) = 8");
        new Run(Given.FULL + "free(10, 5); write(9, 1) = 0; write(15, 1) = 0; write(9, 2) = 1; write(14, 2) = 1; write(12, 1) = 1");
        new Run(Given.FULL + Given.singles(0, 17) + "write(0, 1) = 0; write(2, 1) = 1; write(0, 99) = 15");
        new Run("write(0, 8); free(0, 8); flush(); write(0, 8) = 0");
        doc.says("Throws `IndexOutOfBoundsException` if there is no such block");
        new Run("write(-1, 1) ! index; write(256, 1) ! index; write(-1, 2) ! index; write(-2147483648, 1) ! index;"
                + "write(2147483647, 1) ! index");
        doc.says("Throws `IllegalArgumentException` if n is out of range");
        new Run("write(0, 0) ! argument; write(0, 100) ! argument; write(255, 0) ! argument; write(9, -1) ! argument;"
                + "write(9, -2147483648) ! argument; write(9, 2147483647) ! argument");
        doc.says("Throws `IllegalStateException` if the span goes beyond the last block");
        new Run("write(255, 2) ! state; write(158, 99) ! state; write(157, 99) = 0; write(255, 1) = 0; write(250, 6) = 0;"
                + "write(250, 7) ! state");
    }

    private static void free(Doc doc) {
        doc.says("Frees a span.");
        new Run("write(10, 9); free(12, 3); alive: 10-11 15-18; held: 10-18; ranges: 12+3@0; undo() = 1; alive: 10-18; ranges:");
        doc.says("- `b`: first block");
        new Run(Given.FULL + "free(0, 1); free(255, 1); queued: 0 255");
        doc.says("- `n`: length, 1 to 99");
        new Run(Given.FULL + "free(100, 1); queued: 100; free(100, 99); queued: 100-198; free(0, 99); queued: 0-98 100-198");
        doc.says("Returns how many of its blocks were alive.");
        new Run("free(0, 99) = 0; write(5, 9); free(0, 99) = 9; free(0, 99) = 0; write(7, 1); free(7, 2) = 1; free(0, 8) = 0");
        new Run(Given.FULL + "free(0, 99) = 99; free(50, 99) = 50; free(157, 99) = 99; free(0, 1) = 0");
        new Run(Given.FULL + Given.singles(0, 16) + "free(100, 1) = 1; free(100, 1) = 0; free(0, 33) = 17");
        new Run("write(0, 8); free(0, 8) = 8; flush(); free(0, 8) = 0");
        doc.says("Throws `IndexOutOfBoundsException` if there is no such block");
        new Run(Given.FULL + "free(-1, 1) ! index; free(256, 1) ! index; free(-1, 2) ! index; free(-2147483648, 1) ! index;"
                + "free(2147483647, 1) ! index");
        doc.says("Throws `IllegalArgumentException` if n is out of range");
        new Run(Given.FULL + "free(0, 0) ! argument; free(0, 100) ! argument; free(255, 0) ! argument; free(9, -1) ! argument;"
                + "free(9, -2147483648) ! argument; free(9, 2147483647) ! argument");
        doc.says("Throws `IllegalStateException` if the span goes beyond the last block");
        new Run(Given.FULL + "free(255, 2) ! state; free(158, 99) ! state; free(250, 7) ! state; free(250, 6) = 6;"
                + "free(157, 99) = 93");
    }

    private static void pin(Doc doc) {
        doc.says("Gives a pin a span, in place of the one that it has.");
        new Run("pin(1, 10, 5); pins: 10-14; pin(1, 20, 2); pins: 20-21; pinned(1, 0) = 20; pinned(1, 1) = 2; undo() = 1; pins: 10-14");
        doc.says("- `k`: pin");
        new Run("pin(0, 1, 1); pin(1, 3, 1); pin(2, 5, 1); pins: 1 3 5; pinned(2, 0) = 5");
        doc.says("- `b`: first block");
        new Run("pin(0, 0, 1); pins: 0; pin(0, 255, 1); pins: 255");
        doc.says("- `n`: length, 1 to 99");
        new Run("pin(0, 100, 1); pins: 100; pin(0, 100, 99); pins: 100-198");
        doc.says("Returns the blocks that are pinned then.");
        new Run("pin(0, 10, 5) = 5; pin(0, 10, 5) = 5; pin(1, 12, 5) = 7; pin(2, 157, 99) = 106; pin(2, 255, 1) = 8; pin(0, 12, 5) = 6;"
                + "pin(0, 0, 99) = 100");
        doc.says("Throws `IndexOutOfBoundsException` if there is no such pin or block");
        new Run("pin(-1, 0, 1) ! index; pin(3, 0, 1) ! index; pin(0, -1, 1) ! index; pin(0, 256, 1) ! index;"
                + "pin(-2147483648, 0, 1) ! index; pin(2147483647, 0, 1) ! index; pin(2, -2147483648, 1) ! index;"
                + "pin(2, 2147483647, 1) ! index");
        doc.says("Throws `IllegalArgumentException` if n is out of range");
        new Run("pin(0, 0, 0) ! argument; pin(0, 0, 100) ! argument; pin(0, 255, -1) ! argument;"
                + "pin(2, 9, -2147483648) ! argument; pin(2, 9, 2147483647) ! argument");
        doc.says("Throws `IllegalStateException` if the span goes beyond the last block");
        new Run("pin(0, 255, 2) ! state; pin(0, 158, 99) ! state; pin(0, 157, 99) = 99; pin(0, 255, 1) = 1; pin(1, 255, 2) ! state");
    }

    private static void unpin(Doc doc) {
        doc.says("Takes the span of a pin away.");
        new Run("pin(0, 10, 5); pin(1, 12, 5); unpin(0); pins: 12-16; pinned(0, 0) = -1; pinned(0, 1) = -1; pinned(1, 0) = 12;"
                + "undo() = 2; pins: 10-16; pinned(0, 0) = 10");
        new Run(Given.FULL + "free(0, 8); pin(0, 0, 8); next(0) = -1; unpin(0); next(0) = 0; run(4) = 8");
        doc.says("- `k`: pin");
        new Run("pin(0, 1, 1); pin(1, 3, 1); pin(2, 5, 1); unpin(2); pins: 1 3; unpin(0); pins: 3; unpin(1); pins:");
        doc.says("Returns the blocks that are pinned then.");
        new Run("pin(0, 10, 5); pin(1, 12, 5); pin(2, 255, 1); unpin(0) = 6; unpin(2) = 5; unpin(1) = 0");
        doc.says("Throws `IndexOutOfBoundsException` if there is no such pin");
        new Run("pin(0, 10, 5); unpin(-1) ! index; unpin(3) ! index; unpin(-2147483648) ! index; unpin(2147483647) ! index");
        doc.says("Throws `IllegalStateException` if it has none");
        new Run("unpin(0) ! state; unpin(1) ! state; unpin(2) ! state");
        new Run("pin(0, 0, 1); unpin(1) ! state; unpin(0) = 0; unpin(0) ! state; pin(0, 0, 1); undo(); unpin(0) ! state");
    }

    private static void run(Doc doc) {
        doc.says("Lets ticks go by.");
        new Run("run(1); about(4) = 1; about(5) = 1; run(7); about(4) = 8; about(5) = 8; undo() = 1; about(4) = 1");
        doc.says("- `n`: 1 to 60");
        new Run("run(1) = 0; about(4) = 1; run(60) = 0; about(4) = 61");
        doc.says("Returns how many blocks are discarded in them.");
        String range = Given.FULL + "free(0, 64);";
        new Run(range + "run(3) = 0; run(1) = 24; run(1) = 24; run(1) = 16; run(60) = 0; about(7) = 64");
        new Run(range + "run(4) = 24; run(2) = 40");
        new Run(range + "run(60) = 64; run(1) = 0");
        new Run(range + "run(5) = 48; write(0, 64); free(0, 64); run(60) = 64; about(7) = 112");
        doc.says("Throws `IllegalArgumentException` if n is out of range");
        new Run(range + "run(0) ! argument; run(61) ! argument; run(-1) ! argument; run(-2147483648) ! argument;"
                + "run(2147483647) ! argument");
    }

    private static void flush(Doc doc) {
        doc.says("Sends commands, without a budget, as long as there is a piece of any range, due or not: each one discards up to 16"
                + " granules of the piece that begins first.");
        new Run("flush() = 0; about(6) = 0");
        String single = Given.FULL + "set(0, 0);";
        new Run(single + "free(0, 15); flush() = 1; about(7) = 15");
        new Run(single + "free(0, 16); flush() = 1; about(7) = 16");
        new Run(single + "free(0, 17); flush() = 2; about(7) = 17");
        new Run(single + "free(0, 32); flush() = 2; about(7) = 32");
        new Run(single + "free(0, 99); flush() = 7; about(7) = 99; ranges:");
        new Run(Given.FULL + "free(0, 99); free(99, 99); free(198, 58); flush() = 4; about(7) = 256; held:");
        new Run(Given.FULL + "set(0, 4); free(0, 99); free(99, 99); free(198, 58); flush() = 1; about(7) = 256; held:");
        // Without a budget, though nothing is due and the device has not been quiet; what is in no piece stays.
        new Run(Given.FULL + "set(1, 20); set(2, 0); set(3, 50); set(4, 9); free(3, 30); flush() = 1; ranges: 3+1@0 32+1@0");
        new Run(Given.FULL + "free(0, 99); pin(0, 40, 8); flush() = 2; about(7) = 88; ranges: 40+8@0 96+3@0; flush() = 0");
        new Run(Given.FULL + "free(0, 3); free(5, 3); flush() = 0; ranges: 0+3@0 5+3@0");
        // The piece that begins first comes first, whatever the order is: behind its command a range is dropped, for there
        // are 17 then; if the range that is earlier, or longer, came first, none would have to be.
        for (int order = 0; order <= 2; order++) {
            new Run(Given.FULL + "set(5, " + order + "); free(48, 8); run(1); pin(0, 0, 16); pin(1, 20, 20); free(0, 40);"
                    + Given.spans(64, 4, 8, 14) + """
                    about(2) = 16; flush() = 15; about(7) = 64; about(8) = 1; lost: 64-67; ranges: 0+16@1 20+20@1
                    """);
        }
        doc.says("No time goes by, and the device is quiet as before.");
        new Run(Given.FULL + "run(5); free(0, 99); run(1); about(5) = 1; flush() = 2; about(4) = 6; about(5) = 1; undo() = 6;"
                + "about(7) = 0");
        new Run(Given.FULL + "run(9); flush() = 0; about(4) = 9; about(5) = 9");
        doc.says("Returns how many commands are sent.");
        new Run(Given.FULL + Given.spans(0, 4, 8, 16) + "flush() = 16; about(6) = 16; flush() = 0; about(6) = 16; free(4, 4);"
                + "flush() = 1; about(6) = 17");
    }

    private static void set(Doc doc) {
        doc.says("Changes a setting.");
        new Run("set(0, 4); setting(0) = 4; set(3, 50); setting(3) = 50; undo() = 1; setting(3) = 3; setting(0) = 4");
        doc.says("- `what`: 0 to 5");
        new Run("set(0, 1) = 2; set(1, 1) = 2; set(2, 1) = 8; set(3, 1) = 3; set(4, 1) = 2; set(5, 1) = 0");
        doc.says("- `v`: the new value, in its range");
        new Run("set(0, 0); set(1, 0); set(2, 0); set(3, 0); set(4, 0); set(5, 0);"
                + "set(0, 4) = 0; set(1, 20) = 0; set(2, 40) = 0; set(3, 50) = 0; set(4, 9) = 0; set(5, 2) = 0; setting(5) = 2");
        doc.says("Returns the previous one.");
        new Run("set(2, 40) = 8; set(2, 40) = 40; set(2, 0) = 40; set(2, 7) = 0; undo(); set(2, 1) = 0");
        doc.says("Throws `IllegalArgumentException` if what or v is out of range");
        new Run("set(-1, 0) ! argument; set(6, 0) ! argument; set(-2147483648, 0) ! argument; set(2147483647, 0) ! argument;"
                + "set(6, 99) ! argument; set(-1, -1) ! argument");
        new Run("set(0, 5) ! argument; set(1, 21) ! argument; set(2, 41) ! argument; set(3, 51) ! argument;"
                + "set(4, 10) ! argument; set(5, 3) ! argument");
        for (int what = 0; what <= 5; what++) {
            new Run("set(" + what + ", -1) ! argument; set(" + what + ", -2147483648) ! argument;"
                    + "set(" + what + ", 2147483647) ! argument");
        }
    }
}
