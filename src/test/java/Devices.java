/** Devices that several tests begin with. */
final class Devices {
    private Devices() {
    }

    /** All blocks are alive. */
    static IdleDiscards full() {
        IdleDiscards x = new IdleDiscards();
        x.write(0, 99);
        x.write(99, 99);
        x.write(198, 58);
        return x;
    }

    /** 15 ranges of 2 blocks, and one of 10 with a granule in its middle: its command makes 17 ranges of 16. */
    static IdleDiscards withOneToPart() {
        IdleDiscards x = full();
        x.free(1, 10);
        for (int i = 0; i < 15; i++) {
            x.free(100 + 4 * i, 2);
        }
        return x;
    }
}
