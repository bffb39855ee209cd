import java.util.Arrays;

/** Discards of a device that are queued and sent when it is idle; ../shared/DOC.md says what it does. */
public final class IdleDiscards {
    public static final int NONE = -1;

    private static final int BLOCKS = 256;
    private static final int LONGEST_SPAN = 99;
    private static final int MOST_RANGES = 16;
    private static final int PINS = 3;
    private static final int MOST_GRANULES = 16;
    private static final int MOST_TICKS = 60;
    private static final int TICKS_AHEAD = 100;
    private static final int MOST_TURNS = 60;
    private static final int MOST_SCRIPT_COMMANDS = 3;
    /** A group of a script is six decimal digits. */
    private static final int GROUP = 1000000;
    private static final int LONGEST_TEXT = 120;
    private static final int MOST_REMEMBERED = 14;
    private static final int SLOTS = 2;

    private static final int SETTINGS = 6;
    private static final int GRANULE = 0;
    private static final int QUIET_TICKS = 1;
    private static final int BUDGET = 2;
    private static final int WAIT = 3;
    private static final int COST = 4;
    private static final int ORDER = 5;
    private static final int[] FIRST_SETTINGS = {2, 2, 8, 3, 2, 0};
    private static final int[] GREATEST_SETTINGS = {4, 20, 40, 50, 9, 2};

    // The order 0 is the one that is left: the range with the earliest time first.
    private static final int LONGEST_FIRST = 1;
    private static final int LOWEST_FIRST = 2;

    // A queued block is told by the time of its range, any other block by one of these.
    // The device holds something at all but the empty ones: what is alive or queued is held as well.
    private static final int EMPTY = -1;
    private static final int ALIVE = -2;
    private static final int LOST = -3;

    private final Text text;
    private final Device device;
    private final Device copy;
    private final Past past;
    private final Device[] slots;
    private final boolean[] slotUsed;

    public IdleDiscards() {
        text = new Text();
        device = new Device();
        copy = new Device();
        past = new Past();
        slots = new Device[SLOTS];
        for (int i = 0; i < SLOTS; i++) {
            slots[i] = new Device();
        }
        slotUsed = new boolean[SLOTS];
    }

    // ---- text

    public int append(int c) throws IllegalArgumentException, IllegalStateException {
        if (c < 0 || c > 255) {
            throw new IllegalArgumentException("no such character");
        }
        if (text.isFull()) {
            throw new IllegalStateException("the text is full");
        }
        return text.add((char) c);
    }

    public int clearText() {
        return text.empty();
    }

    public int errorPosition() {
        return text.firstError();
    }

    public int load() throws IllegalStateException {
        if (text.firstError() != NONE) {
            throw new IllegalStateException("the text is not a log");
        }
        device.makeNew();
        past.forget();
        for (int i = 0; i < SLOTS; i++) {
            slotUsed[i] = false;
        }
        text.beginCommands();
        int leftOut = 0;
        for (int i = 0; i < LONGEST_TEXT && text.readCommand(); i++) {
            if (!doTextCommand()) {
                leftOut++;
            }
        }
        return leftOut;
    }

    /** Does the command that was read last, if it would not throw; answers whether it did. */
    private boolean doTextCommand() {
        int first = text.number(0);
        int second = text.number(1);
        switch (text.letter()) {
            case 'w':
                return writeIfAllowed(first, second, device);
            case 'f':
                return freeIfAllowed(first, second, device);
            case 'i':
                device.passTicks(first);
                return true;
            case 'p':
                return pinIfAllowed(first, second, text.number(2), device);
            default:
                return setIfAllowed(first, second, device);
        }
    }

    // ---- what there is

    public int about(int what) throws IllegalArgumentException {
        switch (what) {
            case 0: return device.count(ALIVE);
            case 1: return BLOCKS - device.count(EMPTY);
            case 2: return device.countRanges();
            case 3: return device.countQueued();
            case 4: return device.time();
            case 5: return device.quietTicks();
            case 6: return device.commands();
            case 7: return device.discarded();
            case 8: return device.dropped();
            case 9: return device.countPinned();
            case 10: return device.count(LOST);
            default: throw new IllegalArgumentException("no such number");
        }
    }

    public int block(int b, int what) throws IndexOutOfBoundsException, IllegalArgumentException {
        checkBlock(b);
        switch (what) {
            case 0: return device.isAlive(b) ? 1 : 0;
            case 1: return device.isHeld(b) ? 1 : 0;
            case 2: return device.rangeOf(b);
            case 3: return device.isAnyPinned(b, b + 1) ? 1 : 0;
            default: throw new IllegalArgumentException("no such number of a block");
        }
    }

    public int range(int k, int what) throws IndexOutOfBoundsException, IllegalArgumentException {
        if (k < 0 || k >= device.countRanges()) {
            throw new IndexOutOfBoundsException("no such range");
        }
        int first = device.firstOfRange(k);
        int end = device.endOfRange(first);
        switch (what) {
            case 0: return first;
            case 1: return end - first;
            case 2: return device.timeOf(first);
            case 3: return device.countPieces(first, end);
            case 4: return device.countGranules(first, end);
            case 5: return device.isDue(first) ? 1 : 0;
            default: throw new IllegalArgumentException("no such number of a range");
        }
    }

    public int pinned(int k, int what) throws IndexOutOfBoundsException, IllegalArgumentException {
        checkPin(k);
        if (what != 0 && what != 1) {
            throw new IllegalArgumentException("no such number of a pin");
        }
        if (!device.hasPin(k)) {
            return NONE;
        }
        return what == 0 ? device.firstPinned(k) : device.lengthPinned(k);
    }

    public int setting(int what) throws IllegalArgumentException {
        if (!isSetting(what)) {
            throw new IllegalArgumentException("no such setting");
        }
        return device.settingAt(what);
    }

    // ---- actions

    public int write(int b, int n)
            throws IndexOutOfBoundsException, IllegalArgumentException, IllegalStateException {
        checkSpan(b, n);
        past.remember(device);
        return device.writeSpan(b, n);
    }

    public int free(int b, int n)
            throws IndexOutOfBoundsException, IllegalArgumentException, IllegalStateException {
        checkSpan(b, n);
        past.remember(device);
        return device.freeSpan(b, n);
    }

    public int pin(int k, int b, int n)
            throws IndexOutOfBoundsException, IllegalArgumentException, IllegalStateException {
        checkPin(k);
        checkSpan(b, n);
        past.remember(device);
        device.pinSpan(k, b, n);
        return device.countPinned();
    }

    public int unpin(int k) throws IndexOutOfBoundsException, IllegalStateException {
        checkPin(k);
        if (!device.hasPin(k)) {
            throw new IllegalStateException("the pin has no span");
        }
        past.remember(device);
        device.pinSpan(k, 0, 0);
        return device.countPinned();
    }

    public int run(int n) throws IllegalArgumentException {
        checkTicks(n, MOST_TICKS);
        past.remember(device);
        return device.passTicks(n);
    }

    public int flush() {
        past.remember(device);
        return device.sendAll();
    }

    public int set(int what, int v) throws IllegalArgumentException {
        if (!isValue(what, v)) {
            throw new IllegalArgumentException("no such setting or value");
        }
        past.remember(device);
        int previous = device.settingAt(what);
        device.changeSetting(what, v);
        return previous;
    }

    public int undo() throws IllegalStateException {
        if (past.size() == 0) {
            throw new IllegalStateException("no state is remembered");
        }
        past.takeBack(device);
        return past.size();
    }

    // ---- what would be

    public int next(int what) throws IllegalArgumentException {
        if (what < 0 || what > 2) {
            throw new IllegalArgumentException("no such number of a command");
        }
        copy.copyFrom(device);
        for (int i = 0; i < TICKS_AHEAD; i++) {
            int piece = copy.pieceOfTick();
            if (piece != NONE) {
                return ofCommand(piece, what);
            }
            copy.tick();
        }
        return NONE;
    }

    /** Tells a number of the command that the copy's tick begins with, at that piece. */
    private int ofCommand(int piece, int what) {
        switch (what) {
            case 0: return piece * copy.granuleSize();
            case 1: return copy.granulesOfTick(piece) * copy.granuleSize();
            default: return copy.time();
        }
    }

    public int goneIn(int b) throws IndexOutOfBoundsException {
        checkBlock(b);
        copy.copyFrom(device);
        // Ticks queue nothing, so a block that is in no range is waited for in vain.
        for (int ticks = 0; ticks < TICKS_AHEAD && copy.isQueued(b); ticks++) {
            copy.tick();
        }
        return copy.isHeld(b) ? NONE : copy.time() - device.time();
    }

    public int coming(int n, int what) throws IllegalArgumentException {
        checkTicks(n, TICKS_AHEAD);
        if (what < 0 || what > 3) {
            throw new IllegalArgumentException("no such number of ticks to come");
        }
        copy.copyFrom(device);
        int discarded = copy.passTicks(n);
        switch (what) {
            case 0: return discarded;
            case 1: return copy.commands() - device.commands();
            case 2: return copy.countRanges();
            default: return copy.countQueued();
        }
    }

    public int bestGranule(int n) throws IllegalArgumentException {
        checkTicks(n, MOST_TICKS);
        int best = 0;
        int most = 0;
        for (int granule = 0; granule <= GREATEST_SETTINGS[GRANULE]; granule++) {
            copy.copyFrom(device);
            copy.changeSetting(GRANULE, granule);
            int discarded = copy.passTicks(n);
            if (discarded >= most) {
                best = granule;
                most = discarded;
            }
        }
        return best;
    }

    public int ifWritten(int b, int n)
            throws IndexOutOfBoundsException, IllegalArgumentException, IllegalStateException {
        checkSpan(b, n);
        copy.copyFrom(device);
        copy.writeSpan(b, n);
        return copy.countRanges();
    }

    public int stuck() {
        return device.countQueued() - device.countGranules(0, BLOCKS) * device.granuleSize();
    }

    // ---- scripts, simulations

    public int runScript(int n, long script) throws IllegalArgumentException {
        if (n < 1 || n > MOST_SCRIPT_COMMANDS) {
            throw new IllegalArgumentException("no such number of commands");
        }
        if (script < 0 || groupsFrom(script, n) > 0) {
            throw new IllegalArgumentException("the script has too many digits");
        }
        copy.copyFrom(device);
        for (int i = 0; i < n; i++) {
            int group = (int) (groupsFrom(script, n - 1 - i) % GROUP);
            if (!doScriptCommand(group)) {
                return i;
            }
        }
        return NONE;
    }

    /** The number without its lowest groups of six digits. */
    private static long groupsFrom(long number, int lowest) {
        long rest = number;
        for (int i = 0; i < lowest; i++) {
            rest /= GROUP;
        }
        return rest;
    }

    /** Does a group of six digits on the copy; answers whether it succeeds. */
    private boolean doScriptCommand(int group) {
        int rest = group % 100000;
        switch (group / 100000) {
            case 1:
                return writeIfAllowed(rest / 100, rest % 100, copy);
            case 2:
                return freeIfAllowed(rest / 100, rest % 100, copy);
            case 3:
                if (!isTicks(rest, MOST_TICKS)) {
                    return false;
                }
                copy.passTicks(rest);
                return true;
            case 4:
                return rest % 100 == 0 && setIfAllowed(rest / 10000, rest / 100 % 100, copy);
            case 5:
                if (rest != 0) {
                    return false;
                }
                copy.sendAll();
                return true;
            case 6:
                return isBlock(rest / 100) && rest % 100 == (copy.isHeld(rest / 100) ? 1 : 0);
            case 7:
                return rest < 1000 && copy.countQueued() <= rest;
            case 8:
                return rest < 100 && copy.countRanges() >= rest;
            case 9:
                return isBlock(rest / 100) && rest % 100 == (copy.isAlive(rest / 100) ? 1 : 0);
            default:
                return false;
        }
    }

    public int simulate(long seed, int m) throws IllegalArgumentException {
        if (m < 1 || m > MOST_TURNS) {
            throw new IllegalArgumentException("no such number of turns");
        }
        copy.copyFrom(device);
        long x = seed;
        for (int i = 0; i < m; i++) {
            x = x * 6364136223846793005L + 1442695040888963407L;
            takeTurn((int) (x >>> 33));
        }
        return 1000 * (copy.discarded() - device.discarded()) + copy.countQueued();
    }

    private void takeTurn(int r) {
        int b = r / 8 % 256;
        int length = 1 + r / 2048 % 40;
        switch (r % 8) {
            case 0:
            case 1:
                writeIfAllowed(b, length, copy);
                break;
            case 2:
            case 3:
            case 4:
                freeIfAllowed(b, length, copy);
                break;
            case 5:
                pinIfAllowed(r / 8 % 3, r / 32 % 256, 1 + r / 8192 % 9, copy);
                break;
            default:
                copy.passTicks(1 + r / 8 % 8);
                break;
        }
    }

    // ---- save slots

    public int save(int slot) throws IndexOutOfBoundsException {
        checkSlot(slot);
        slots[slot].copyFrom(device);
        slotUsed[slot] = true;
        return device.time();
    }

    public int restore(int slot) throws IndexOutOfBoundsException, IllegalStateException {
        checkSlot(slot);
        if (!slotUsed[slot]) {
            throw new IllegalStateException("nothing is saved in the slot");
        }
        device.copyFrom(slots[slot]);
        past.forget();
        return device.time();
    }

    // ---- what is allowed

    private static boolean isBlock(int b) {
        return b >= 0 && b < BLOCKS;
    }

    private static boolean isLength(int n) {
        return n >= 1 && n <= LONGEST_SPAN;
    }

    private static boolean isSpan(int b, int n) {
        return isBlock(b) && isLength(n) && b + n <= BLOCKS;
    }

    private static boolean isTicks(int n, int most) {
        return n >= 1 && n <= most;
    }

    private static boolean isPin(int k) {
        return k >= 0 && k < PINS;
    }

    private static boolean isSetting(int what) {
        return what >= 0 && what < SETTINGS;
    }

    private static boolean isValue(int what, int v) {
        return isSetting(what) && v >= 0 && v <= GREATEST_SETTINGS[what];
    }

    private static void checkBlock(int b) {
        if (!isBlock(b)) {
            throw new IndexOutOfBoundsException("no such block");
        }
    }

    private static void checkSpan(int b, int n) {
        checkBlock(b);
        if (!isLength(n)) {
            throw new IllegalArgumentException("no such length");
        }
        if (!isSpan(b, n)) {
            throw new IllegalStateException("the span goes beyond the last block");
        }
    }

    private static void checkPin(int k) {
        if (!isPin(k)) {
            throw new IndexOutOfBoundsException("no such pin");
        }
    }

    private static void checkTicks(int n, int most) {
        if (!isTicks(n, most)) {
            throw new IllegalArgumentException("no such number of ticks");
        }
    }

    private static void checkSlot(int slot) {
        if (slot < 0 || slot >= SLOTS) {
            throw new IndexOutOfBoundsException("no such save slot");
        }
    }

    // Texts, scripts and simulations leave out what would throw: these answer whether the change was made.

    private static boolean writeIfAllowed(int b, int n, Device to) {
        if (!isSpan(b, n)) {
            return false;
        }
        to.writeSpan(b, n);
        return true;
    }

    private static boolean freeIfAllowed(int b, int n, Device to) {
        if (!isSpan(b, n)) {
            return false;
        }
        to.freeSpan(b, n);
        return true;
    }

    private static boolean pinIfAllowed(int k, int b, int n, Device to) {
        if (!isPin(k) || !isSpan(b, n)) {
            return false;
        }
        to.pinSpan(k, b, n);
        return true;
    }

    private static boolean setIfAllowed(int what, int v, Device to) {
        if (!isValue(what, v)) {
            return false;
        }
        to.changeSetting(what, v);
        return true;
    }

    /**
     * The state: all that undo takes back and that a save slot keeps.
     * Ranges are not held: they are the rows of queued blocks, for two ranges never touch.
     * Its methods expect blocks, spans, pins and settings that exist.
     */
    private static final class Device {
        /** For each block the time of its range if it is queued; otherwise EMPTY, ALIVE or LOST, all below 0. */
        private final int[] blocks = new int[BLOCKS];
        private final int[] pinFirst = new int[PINS];
        /** 0 for a pin without a span. */
        private final int[] pinLength = new int[PINS];
        private final int[] settings = new int[SETTINGS];
        private int time;
        private int quiet;
        private int commands;
        private int discarded;
        private int dropped;

        Device() {
            makeNew();
        }

        void makeNew() {
            Arrays.fill(blocks, EMPTY);
            Arrays.fill(pinFirst, 0);
            Arrays.fill(pinLength, 0);
            System.arraycopy(FIRST_SETTINGS, 0, settings, 0, SETTINGS);
            time = 0;
            quiet = 0;
            commands = 0;
            discarded = 0;
            dropped = 0;
        }

        void copyFrom(Device other) {
            System.arraycopy(other.blocks, 0, blocks, 0, BLOCKS);
            System.arraycopy(other.pinFirst, 0, pinFirst, 0, PINS);
            System.arraycopy(other.pinLength, 0, pinLength, 0, PINS);
            System.arraycopy(other.settings, 0, settings, 0, SETTINGS);
            time = other.time;
            quiet = other.quiet;
            commands = other.commands;
            discarded = other.discarded;
            dropped = other.dropped;
        }

        int time() {
            return time;
        }

        int quietTicks() {
            return quiet;
        }

        int commands() {
            return commands;
        }

        int discarded() {
            return discarded;
        }

        int dropped() {
            return dropped;
        }

        int settingAt(int what) {
            return settings[what];
        }

        void changeSetting(int what, int v) {
            settings[what] = v;
        }

        // -- blocks

        boolean isAlive(int b) {
            return blocks[b] == ALIVE;
        }

        boolean isHeld(int b) {
            return blocks[b] != EMPTY;
        }

        boolean isQueued(int b) {
            return blocks[b] >= 0;
        }

        /** How many blocks are as told by EMPTY, ALIVE or LOST. */
        int count(int wanted) {
            int count = 0;
            for (int b = 0; b < BLOCKS; b++) {
                if (blocks[b] == wanted) {
                    count++;
                }
            }
            return count;
        }

        int countQueued() {
            int count = 0;
            for (int b = 0; b < BLOCKS; b++) {
                if (blocks[b] >= 0) {
                    count++;
                }
            }
            return count;
        }

        int writeSpan(int first, int n) {
            int taken = 0;
            for (int b = first; b < first + n; b++) {
                if (blocks[b] >= 0) {
                    taken++;
                }
                blocks[b] = ALIVE;
            }
            quiet = 0;
            dropSurplus();
            return taken;
        }

        int freeSpan(int first, int n) {
            int freed = 0;
            for (int b = first; b < first + n; b++) {
                if (blocks[b] == ALIVE) {
                    queueNow(b);
                    freed++;
                }
            }
            quiet = 0;
            dropSurplus();
            return freed;
        }

        /** Queues a block and gives the whole range that it is in then the time of now. */
        private void queueNow(int b) {
            blocks[b] = time;
            // The blocks of a range have the same time, so what has the time of now needs no further look.
            for (int i = b - 1; i >= 0 && blocks[i] >= 0 && blocks[i] != time; i--) {
                blocks[i] = time;
            }
            for (int i = b + 1; i < BLOCKS && blocks[i] >= 0 && blocks[i] != time; i++) {
                blocks[i] = time;
            }
        }

        // -- pins

        void pinSpan(int k, int b, int n) {
            pinFirst[k] = b;
            pinLength[k] = n;
        }

        boolean hasPin(int k) {
            return pinLength[k] > 0;
        }

        int firstPinned(int k) {
            return pinFirst[k];
        }

        int lengthPinned(int k) {
            return pinLength[k];
        }

        /** Whether one of the blocks from that one on, ahead of the end, is pinned. */
        boolean isAnyPinned(int first, int end) {
            for (int k = 0; k < PINS; k++) {
                if (pinLength[k] > 0 && pinFirst[k] < end && pinFirst[k] + pinLength[k] > first) {
                    return true;
                }
            }
            return false;
        }

        int countPinned() {
            int count = 0;
            for (int b = 0; b < BLOCKS; b++) {
                if (isAnyPinned(b, b + 1)) {
                    count++;
                }
            }
            return count;
        }

        // -- ranges

        int countRanges() {
            return countRangesAhead(BLOCKS);
        }

        /** How many ranges begin ahead of that block. */
        private int countRangesAhead(int end) {
            int count = 0;
            boolean inRange = false;
            for (int b = 0; b < end; b++) {
                boolean queued = blocks[b] >= 0;
                if (queued && !inRange) {
                    count++;
                }
                inRange = queued;
            }
            return count;
        }

        int rangeOf(int b) {
            return blocks[b] >= 0 ? countRangesAhead(b + 1) - 1 : NONE;
        }

        int firstOfRange(int k) {
            int left = k;
            boolean inRange = false;
            for (int b = 0; b < BLOCKS; b++) {
                boolean queued = blocks[b] >= 0;
                if (queued && !inRange) {
                    if (left == 0) {
                        return b;
                    }
                    left--;
                }
                inRange = queued;
            }
            return 0;
        }

        /** The first block behind the range that begins there. */
        int endOfRange(int first) {
            int end = first;
            while (end < BLOCKS && blocks[end] >= 0) {
                end++;
            }
            return end;
        }

        int timeOf(int first) {
            return blocks[first];
        }

        /** Whether the range that the queued block is in is due. */
        boolean isDue(int b) {
            return time - blocks[b] >= settings[WAIT];
        }

        private void dropSurplus() {
            for (int surplus = countRangesAhead(BLOCKS) - MOST_RANGES; surplus > 0; surplus--) {
                int first = shortestRange();
                for (int b = first; b < BLOCKS && blocks[b] >= 0; b++) {
                    blocks[b] = LOST;
                }
                dropped++;
            }
        }

        private int shortestRange() {
            int shortest = 0;
            int leastLength = BLOCKS + 1;
            int length = 0;
            for (int b = 0; b <= BLOCKS; b++) {
                if (b < BLOCKS && blocks[b] >= 0) {
                    length++;
                } else {
                    if (length > 0 && length < leastLength) {
                        shortest = b - length;
                        leastLength = length;
                    }
                    length = 0;
                }
            }
            return shortest;
        }

        // -- granules, told by their numbers from 0, and pieces, told by their first granule

        int granuleSize() {
            return 1 << settings[GRANULE];
        }

        /**
         * Whether a granule can be discarded: all of it is queued, none of it pinned.
         * It is in one range then, for queued blocks side by side always are.
         */
        private boolean isFree(int granule) {
            int first = granule << settings[GRANULE];
            int end = first + granuleSize();
            if (first < 0 || end > BLOCKS) {
                return false;
            }
            for (int b = first; b < end; b++) {
                if (blocks[b] < 0) {
                    return false;
                }
            }
            return !isAnyPinned(first, end);
        }

        /** The first granule that begins at that block or behind it. */
        private int granuleFrom(int b) {
            return (b + granuleSize() - 1) >> settings[GRANULE];
        }

        int countPieces(int first, int end) {
            int pieces = 0;
            boolean inPiece = false;
            int endGranule = end >> settings[GRANULE];
            for (int g = granuleFrom(first); g < endGranule; g++) {
                boolean free = isFree(g);
                if (free && !inPiece) {
                    pieces++;
                }
                inPiece = free;
            }
            return pieces;
        }

        int countGranules(int first, int end) {
            int granules = 0;
            int endGranule = end >> settings[GRANULE];
            for (int g = granuleFrom(first); g < endGranule; g++) {
                if (isFree(g)) {
                    granules++;
                }
            }
            return granules;
        }

        /** The granules of a piece from that one on, counted up to that many. */
        private int granulesFrom(int granule, int most) {
            int granules = 0;
            while (granules < most && isFree(granule + granules)) {
                granules++;
            }
            return granules;
        }

        /** The piece that comes first by the order; NONE if there is no piece. */
        private int choosePiece(boolean dueOnly, int order) {
            int chosen = NONE;
            int earliest = 0;
            int most = 0;
            int granules = 0;
            int end = BLOCKS >> settings[GRANULE];
            for (int g = 0; g < end; g++) {
                int b = g << settings[GRANULE];
                if (blocks[b] < 0 || dueOnly && !isDue(b) || !isFree(g)) {
                    granules = 0;
                    continue;
                }
                granules++;
                if (order == LOWEST_FIRST) {
                    return g;
                }
                if (order == LONGEST_FIRST) {
                    if (granules > most) {
                        most = granules;
                        chosen = g - granules + 1;
                    }
                } else if (chosen == NONE || blocks[b] < earliest) {
                    earliest = blocks[b];
                    chosen = g;
                }
            }
            return chosen;
        }

        // -- commands and ticks

        int passTicks(int n) {
            int before = discarded;
            for (int i = 0; i < n; i++) {
                tick();
            }
            return discarded - before;
        }

        void tick() {
            int budget = budgetOfTick();
            // Each command discards a block at least, so there are never more commands than blocks.
            for (int i = 0; i < BLOCKS && budget > settings[COST]; i++) {
                int piece = choosePiece(true, settings[ORDER]);
                if (piece == NONE) {
                    break;
                }
                int granules = granulesFrom(piece, mostGranules(budget));
                discard(piece, granules);
                budget -= settings[COST] + granules;
            }
            time++;
            quiet++;
        }

        private int budgetOfTick() {
            return quiet >= settings[QUIET_TICKS] ? settings[BUDGET] : 0;
        }

        /** The granules that a command can discard for the budget. */
        private int mostGranules(int budget) {
            return Math.min(MOST_GRANULES, budget - settings[COST]);
        }

        /** The piece for the first command of this tick; NONE if it sends none. */
        int pieceOfTick() {
            return budgetOfTick() > settings[COST] ? choosePiece(true, settings[ORDER]) : NONE;
        }

        /** The granules that the first command of this tick discards of its piece. */
        int granulesOfTick(int piece) {
            return granulesFrom(piece, mostGranules(budgetOfTick()));
        }

        int sendAll() {
            int before = commands;
            for (int i = 0; i < BLOCKS; i++) {
                int piece = choosePiece(false, LOWEST_FIRST);
                if (piece == NONE) {
                    break;
                }
                discard(piece, granulesFrom(piece, MOST_GRANULES));
            }
            return commands - before;
        }

        private void discard(int granule, int granules) {
            int first = granule << settings[GRANULE];
            int length = granules << settings[GRANULE];
            for (int b = first; b < first + length; b++) {
                blocks[b] = EMPTY;
            }
            commands++;
            discarded += length;
            dropSurplus();
        }
    }

    /** The remembered states, in a ring: the oldest one makes room for one more. */
    private static final class Past {
        private final Device[] states = new Device[MOST_REMEMBERED];
        private int oldest;
        private int size;

        Past() {
            for (int i = 0; i < MOST_REMEMBERED; i++) {
                states[i] = new Device();
            }
        }

        int size() {
            return size;
        }

        void forget() {
            size = 0;
        }

        void remember(Device state) {
            if (size == MOST_REMEMBERED) {
                oldest = (oldest + 1) % MOST_REMEMBERED;
            } else {
                size++;
            }
            states[newest()].copyFrom(state);
        }

        void takeBack(Device state) {
            state.copyFrom(states[newest()]);
            size--;
        }

        private int newest() {
            return (oldest + size - 1) % MOST_REMEMBERED;
        }
    }

    /** The text buffer, and a reader that goes through it command by command. */
    private static final class Text {
        private final char[] chars = new char[LONGEST_TEXT];
        private final int[] numbers = new int[3];
        private int length;
        private int at;
        private int letter;

        boolean isFull() {
            return length >= LONGEST_TEXT;
        }

        int add(char c) {
            chars[length] = c;
            length++;
            return length;
        }

        int empty() {
            int before = length;
            length = 0;
            return before;
        }

        int firstError() {
            if (length == 0 || chars[0] != 'D') {
                return 0;
            }
            at = 1;
            for (int i = 0; i < LONGEST_TEXT && at < length; i++) {
                if (!readCommand()) {
                    return at;
                }
            }
            return NONE;
        }

        void beginCommands() {
            at = 1;
        }

        int letter() {
            return letter;
        }

        int number(int index) {
            return numbers[index];
        }

        /** Reads one command; if it can't, it answers false and stands where the text is not allowed. */
        boolean readCommand() {
            if (at >= length) {
                return false;
            }
            letter = chars[at];
            switch (letter) {
                case 'w':
                case 'f':
                    at++;
                    return readSpan(0);
                case 'i':
                    at++;
                    return readNumber(0, 2, 1, MOST_TICKS);
                case 'p':
                    at++;
                    return readNumber(0, 1, 0, PINS - 1) && readSpan(1);
                case 's':
                    at++;
                    return readNumber(0, 1, 0, SETTINGS - 1) && readNumber(1, 2, 0, 99);
                default:
                    return false;
            }
        }

        private boolean readSpan(int index) {
            return readNumber(index, 3, 0, BLOCKS - 1) && readNumber(index + 1, 2, 1, LONGEST_SPAN);
        }

        private boolean readNumber(int index, int digits, int least, int most) {
            int unit = 1;
            for (int i = 1; i < digits; i++) {
                unit *= 10;
            }
            int value = 0;
            for (int i = 0; i < digits; i++) {
                if (at >= length || chars[at] < '0' || chars[at] > '9') {
                    return false;
                }
                value += (chars[at] - '0') * unit;
                // Numbers that begin like this one go from value up to value + unit - 1.
                if (value > most || value + unit - 1 < least) {
                    return false;
                }
                at++;
                unit /= 10;
            }
            numbers[index] = value;
            return true;
        }
    }
}
