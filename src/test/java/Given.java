/** Calls that several tests begin with, as texts for Run. */
final class Given {
    /** All blocks are alive. */
    static final String FULL = "write(0, 99); write(99, 99); write(198, 58);\n";

    /**
     * 16 ranges, of which the lowest has one granule only that is not pinned, in its middle: behind its command there
     * are 17. The others are a granule each, from the block 48 on.
     */
    static final String PARTED_IN_A_TICK =
            FULL + "pin(0, 0, 16); pin(1, 20, 20); free(0, 40);\n" + spans(48, 4, 8, 15);

    private Given() {
    }

    /** Frees that many spans of a length, each so many blocks behind the one before. */
    static String spans(int first, int length, int step, int count) {
        StringBuilder all = new StringBuilder();
        for (int i = 0; i < count; i++) {
            all.append("free(").append(first + i * step).append(", ").append(length).append(");");
        }
        return all.append('\n').toString();
    }

    /** Frees that many single blocks, each second one. */
    static String singles(int first, int count) {
        return spans(first, 1, 2, count);
    }

    /** Writes that many single blocks, each second one. */
    static String writtenSingles(int first, int count) {
        return singles(first, count).replace("free", "write");
    }
}
