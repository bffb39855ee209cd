import java.util.ArrayDeque;
import java.util.ArrayList;
import java.util.Deque;
import java.util.List;
import java.util.TreeSet;
import java.util.regex.Matcher;
import java.util.regex.Pattern;

/**
 * The document once more, written another way: a list of ranges, sets of blocks, pieces as lists of granules.
 * It is slow and plain, and shares no code with the program, so that the two check each other.
 */
final class Model {
    private static final int NONE = -1;
    private static final int[] MOST = {4, 20, 40, 50, 9, 2};
    private static final String SPAN = "(?:[01][0-9][0-9]|2[0-4][0-9]|25[0-5])(?:0[1-9]|[1-9][0-9])";
    private static final String COMMAND =
            "[wf]" + SPAN + "|i(?:0[1-9]|[1-5][0-9]|60)|p[0-2]" + SPAN + "|s[0-5][0-9][0-9]";
    private static final Pattern LOG = Pattern.compile("D(?:" + COMMAND + ")*");

    private static final class Range {
        final TreeSet<Integer> blocks = new TreeSet<>();
        int time;

        Range copy() {
            Range r = new Range();
            r.blocks.addAll(blocks);
            r.time = time;
            return r;
        }
    }

    private static final class State {
        TreeSet<Integer> alive = new TreeSet<>();
        TreeSet<Integer> held = new TreeSet<>();
        List<Range> ranges = new ArrayList<>();
        int[][] pins = new int[3][];
        int[] settings = {2, 2, 8, 3, 2, 0};
        int time, quiet, commands, discarded, dropped;

        State copy() {
            State s = new State();
            s.alive.addAll(alive);
            s.held.addAll(held);
            for (Range r : ranges) {
                s.ranges.add(r.copy());
            }
            for (int k = 0; k < 3; k++) {
                s.pins[k] = pins[k] == null ? null : pins[k].clone();
            }
            s.settings = settings.clone();
            s.time = time;
            s.quiet = quiet;
            s.commands = commands;
            s.discarded = discarded;
            s.dropped = dropped;
            return s;
        }

        TreeSet<Integer> queued() {
            TreeSet<Integer> all = new TreeSet<>();
            for (Range r : ranges) {
                all.addAll(r.blocks);
            }
            return all;
        }

        boolean isPinned(int b) {
            for (int[] p : pins) {
                if (p != null && p[0] <= b && b < p[0] + p[1]) {
                    return true;
                }
            }
            return false;
        }

        int countPinned() {
            int n = 0;
            for (int b = 0; b < 256; b++) {
                n += isPinned(b) ? 1 : 0;
            }
            return n;
        }

        /** Takes blocks out of the queue; what is left of a range keeps its time. */
        void unqueue(TreeSet<Integer> gone) {
            List<Range> left = new ArrayList<>();
            for (Range r : ranges) {
                Range part = null;
                int last = -5;
                for (int b : r.blocks) {
                    if (gone.contains(b)) {
                        continue;
                    }
                    if (part == null || b != last + 1) {
                        part = new Range();
                        part.time = r.time;
                        left.add(part);
                    }
                    part.blocks.add(b);
                    last = b;
                }
            }
            ranges = left;
        }

        void dropTooMany() {
            while (ranges.size() > 16) {
                Range shortest = ranges.get(0);
                for (Range r : ranges) {
                    if (r.blocks.size() < shortest.blocks.size()) {
                        shortest = r;
                    }
                }
                ranges.remove(shortest);
                dropped++;
            }
        }

        int write(int b, int n) {
            TreeSet<Integer> span = span(b, n);
            TreeSet<Integer> taken = queued();
            taken.retainAll(span);
            alive.addAll(span);
            held.addAll(span);
            unqueue(span);
            quiet = 0;
            dropTooMany();
            return taken.size();
        }

        int free(int b, int n) {
            TreeSet<Integer> freed = span(b, n);
            freed.retainAll(alive);
            alive.removeAll(freed);
            TreeSet<Integer> all = queued();
            all.addAll(freed);
            List<Range> old = ranges;
            ranges = new ArrayList<>();
            int last = -5;
            for (int x : all) {
                if (x != last + 1) {
                    ranges.add(new Range());
                }
                ranges.get(ranges.size() - 1).blocks.add(x);
                last = x;
            }
            for (Range r : ranges) {
                r.time = time;
                for (Range o : old) {
                    if (o.blocks.equals(r.blocks)) {
                        r.time = o.time;
                    }
                }
            }
            quiet = 0;
            dropTooMany();
            return freed.size();
        }

        static TreeSet<Integer> span(int b, int n) {
            TreeSet<Integer> s = new TreeSet<>();
            for (int i = 0; i < n; i++) {
                s.add(b + i);
            }
            return s;
        }

        boolean isDue(Range r) {
            return r.time <= time - settings[3];
        }

        /** The pieces of a range: lists of blocks. */
        List<List<Integer>> pieces(Range r) {
            int size = (int) Math.pow(2, settings[0]);
            List<List<Integer>> all = new ArrayList<>();
            List<Integer> piece = null;
            for (int g = 0; g < 256 / size; g++) {
                boolean fits = true;
                for (int i = 0; i < size; i++) {
                    fits = fits && r.blocks.contains(g * size + i) && !isPinned(g * size + i);
                }
                if (!fits) {
                    piece = null;
                    continue;
                }
                if (piece == null) {
                    piece = new ArrayList<>();
                    all.add(piece);
                }
                for (int i = 0; i < size; i++) {
                    piece.add(g * size + i);
                }
            }
            return all;
        }

        List<Integer> choose() {
            List<Integer> best = null;
            Range bestRange = null;
            for (Range r : ranges) {
                if (!isDue(r)) {
                    continue;
                }
                for (List<Integer> p : pieces(r)) {
                    boolean better = best == null
                            || settings[5] == 0 && r.time < bestRange.time
                            || settings[5] == 1 && p.size() > best.size();
                    if (better) {
                        best = p;
                        bestRange = r;
                    }
                }
            }
            return best;
        }

        void send(List<Integer> piece, int granules) {
            int size = (int) Math.pow(2, settings[0]);
            TreeSet<Integer> gone = new TreeSet<>(piece.subList(0, granules * size));
            held.removeAll(gone);
            unqueue(gone);
            commands++;
            discarded += gone.size();
            dropTooMany();
        }

        /** Lets a tick go by; answers the first command's first block, blocks and time, or null. */
        int[] tick() {
            int size = (int) Math.pow(2, settings[0]);
            int[] first = null;
            int budget = quiet >= settings[1] ? settings[2] : 0;
            while (budget > settings[4]) {
                List<Integer> piece = choose();
                if (piece == null) {
                    break;
                }
                int granules = piece.size() / size;
                while (granules > 16 || settings[4] + granules > budget) {
                    granules--;
                }
                if (first == null) {
                    first = new int[] {piece.get(0), granules * size, time};
                }
                send(piece, granules);
                budget = budget - settings[4] - granules;
            }
            time++;
            quiet++;
            return first;
        }

        int run(int n) {
            int before = discarded;
            for (int i = 0; i < n; i++) {
                tick();
            }
            return discarded - before;
        }

        int flush() {
            int size = (int) Math.pow(2, settings[0]);
            int sent = 0;
            while (true) {
                List<Integer> first = null;
                for (Range r : ranges) {
                    for (List<Integer> p : pieces(r)) {
                        if (first == null || p.get(0) < first.get(0)) {
                            first = p;
                        }
                    }
                }
                if (first == null) {
                    return sent;
                }
                send(first, Math.min(16, first.size() / size));
                sent++;
            }
        }
    }

    private State now = new State();
    private Deque<State> remembered = new ArrayDeque<>();
    private final State[] slots = new State[2];
    private String text = "";

    private void remember() {
        remembered.addLast(now.copy());
        if (remembered.size() > 14) {
            remembered.removeFirst();
        }
    }

    // ---- text

    int append(int c) {
        argument(c >= 0 && c <= 255);
        state(text.length() < 120);
        text = text + (char) c;
        return text.length();
    }

    int clearText() {
        int n = text.length();
        text = "";
        return n;
    }

    int errorPosition() {
        Matcher m = LOG.matcher(text);
        if (m.matches()) {
            return NONE;
        }
        for (int n = 1; n <= text.length(); n++) {
            Matcher part = LOG.matcher(text.substring(0, n));
            if (!part.matches() && !part.hitEnd()) {
                return n - 1;
            }
        }
        return text.length();
    }

    int load() {
        state(errorPosition() == NONE);
        now = new State();
        slots[0] = null;
        slots[1] = null;
        int leftOut = 0;
        Matcher m = Pattern.compile(COMMAND).matcher(text.substring(1));
        while (m.find()) {
            String c = m.group();
            try {
                switch (c.charAt(0)) {
                    case 'w': write(digits(c, 1, 4), digits(c, 4, 6)); break;
                    case 'f': free(digits(c, 1, 4), digits(c, 4, 6)); break;
                    case 'i': run(digits(c, 1, 3)); break;
                    case 'p': pin(digits(c, 1, 2), digits(c, 2, 5), digits(c, 5, 7)); break;
                    default: set(digits(c, 1, 2), digits(c, 2, 4)); break;
                }
            } catch (RuntimeException e) {
                leftOut++;
            }
        }
        remembered.clear();
        return leftOut;
    }

    private static int digits(String text, int from, int end) {
        return Integer.parseInt(text.substring(from, end));
    }

    // ---- what there is

    int about(int what) {
        argument(what >= 0 && what <= 10);
        TreeSet<Integer> lost = new TreeSet<>(now.held);
        lost.removeAll(now.alive);
        lost.removeAll(now.queued());
        int[] all = {now.alive.size(), now.held.size(), now.ranges.size(), now.queued().size(), now.time, now.quiet,
            now.commands, now.discarded, now.dropped, now.countPinned(), lost.size()};
        return all[what];
    }

    int block(int b, int what) {
        index(b >= 0 && b <= 255);
        argument(what >= 0 && what <= 3);
        if (what == 0) {
            return now.alive.contains(b) ? 1 : 0;
        }
        if (what == 1) {
            return now.held.contains(b) ? 1 : 0;
        }
        if (what == 3) {
            return now.isPinned(b) ? 1 : 0;
        }
        for (int k = 0; k < now.ranges.size(); k++) {
            if (now.ranges.get(k).blocks.contains(b)) {
                return k;
            }
        }
        return NONE;
    }

    int range(int k, int what) {
        index(k >= 0 && k < now.ranges.size());
        argument(what >= 0 && what <= 5);
        Range r = now.ranges.get(k);
        int granules = 0;
        for (List<Integer> p : now.pieces(r)) {
            granules += p.size() >> now.settings[0];
        }
        int[] all = {r.blocks.first(), r.blocks.size(), r.time, now.pieces(r).size(), granules, now.isDue(r) ? 1 : 0};
        return all[what];
    }

    int pinned(int k, int what) {
        index(k >= 0 && k <= 2);
        argument(what == 0 || what == 1);
        return now.pins[k] == null ? NONE : now.pins[k][what];
    }

    int setting(int what) {
        argument(what >= 0 && what <= 5);
        return now.settings[what];
    }

    // ---- actions

    int write(int b, int n) {
        span(b, n);
        remember();
        return now.write(b, n);
    }

    int free(int b, int n) {
        span(b, n);
        remember();
        return now.free(b, n);
    }

    int pin(int k, int b, int n) {
        index(k >= 0 && k <= 2);
        span(b, n);
        remember();
        now.pins[k] = new int[] {b, n};
        return now.countPinned();
    }

    int unpin(int k) {
        index(k >= 0 && k <= 2);
        state(now.pins[k] != null);
        remember();
        now.pins[k] = null;
        return now.countPinned();
    }

    int run(int n) {
        argument(n >= 1 && n <= 60);
        remember();
        return now.run(n);
    }

    int flush() {
        remember();
        return now.flush();
    }

    int set(int what, int v) {
        argument(what >= 0 && what <= 5);
        argument(v >= 0 && v <= MOST[what]);
        remember();
        int old = now.settings[what];
        now.settings[what] = v;
        return old;
    }

    int undo() {
        state(!remembered.isEmpty());
        now = remembered.removeLast();
        return remembered.size();
    }

    // ---- what would be

    int next(int what) {
        argument(what >= 0 && what <= 2);
        State s = now.copy();
        for (int i = 0; i < 100; i++) {
            int[] command = s.tick();
            if (command != null) {
                return command[what];
            }
        }
        return NONE;
    }

    int goneIn(int b) {
        index(b >= 0 && b <= 255);
        State s = now.copy();
        for (int ticks = 0; ticks <= 100; ticks++) {
            if (!s.held.contains(b)) {
                return ticks;
            }
            s.tick();
        }
        return NONE;
    }

    int coming(int n, int what) {
        argument(n >= 1 && n <= 100);
        argument(what >= 0 && what <= 3);
        State s = now.copy();
        s.run(n);
        int[] all = {s.discarded - now.discarded, s.commands - now.commands, s.ranges.size(), s.queued().size()};
        return all[what];
    }

    int bestGranule(int n) {
        argument(n >= 1 && n <= 60);
        int best = 4;
        int most = -1;
        for (int granule = 4; granule >= 0; granule--) {
            State s = now.copy();
            s.settings[0] = granule;
            int discarded = s.run(n);
            if (discarded > most) {
                best = granule;
                most = discarded;
            }
        }
        return best;
    }

    int ifWritten(int b, int n) {
        span(b, n);
        State s = now.copy();
        s.write(b, n);
        return s.ranges.size();
    }

    int stuck() {
        TreeSet<Integer> left = now.queued();
        for (Range r : now.ranges) {
            for (List<Integer> p : now.pieces(r)) {
                left.removeAll(p);
            }
        }
        return left.size();
    }

    // ---- scripts, simulations

    int runScript(int n, long script) {
        argument(n >= 1 && n <= 3);
        argument(script >= 0 && Long.toString(script).length() <= 6 * n);
        String digits = Long.toString(script);
        while (digits.length() < 6 * n) {
            digits = "0" + digits;
        }
        Model m = copy();
        for (int i = 0; i < n; i++) {
            if (!m.does(digits.substring(6 * i, 6 * i + 6))) {
                return i;
            }
        }
        return NONE;
    }

    private boolean does(String g) {
        try {
            if (g.matches("1.....")) {
                write(digits(g, 1, 4), digits(g, 4, 6));
                return true;
            }
            if (g.matches("2.....")) {
                free(digits(g, 1, 4), digits(g, 4, 6));
                return true;
            }
            if (g.matches("3000..")) {
                run(digits(g, 4, 6));
                return true;
            }
            if (g.matches("4...00")) {
                set(digits(g, 1, 2), digits(g, 2, 4));
                return true;
            }
            if (g.equals("500000")) {
                flush();
                return true;
            }
            if (g.matches("6...0.")) {
                return block(digits(g, 1, 4), 1) == digits(g, 5, 6);
            }
            if (g.matches("700...")) {
                return about(3) <= digits(g, 3, 6);
            }
            if (g.matches("8000..")) {
                return about(2) >= digits(g, 4, 6);
            }
            return g.matches("9...0.") && block(digits(g, 1, 4), 0) == digits(g, 5, 6);
        } catch (RuntimeException e) {
            return false;
        }
    }

    int simulate(long seed, int m) {
        argument(m >= 1 && m <= 60);
        Model c = copy();
        long x = seed;
        for (int i = 0; i < m; i++) {
            x = x * 6364136223846793005L + 1442695040888963407L;
            int r = (int) (x >>> 33);
            int b = r / 8 % 256;
            int l = 1 + r / 2048 % 40;
            try {
                if (r % 8 <= 1) {
                    c.write(b, l);
                } else if (r % 8 <= 4) {
                    c.free(b, l);
                } else if (r % 8 == 5) {
                    c.pin(r / 8 % 3, r / 32 % 256, 1 + r / 8192 % 9);
                } else {
                    c.run(1 + r / 8 % 8);
                }
            } catch (RuntimeException e) {
                continue;
            }
        }
        return 1000 * (c.about(7) - about(7)) + c.about(3);
    }

    // ---- save slots

    int save(int slot) {
        index(slot == 0 || slot == 1);
        slots[slot] = now.copy();
        return now.time;
    }

    int restore(int slot) {
        index(slot == 0 || slot == 1);
        state(slots[slot] != null);
        now = slots[slot].copy();
        remembered.clear();
        return now.time;
    }

    private Model copy() {
        Model m = new Model();
        m.now = now.copy();
        return m;
    }

    private static void index(boolean fine) {
        if (!fine) {
            throw new IndexOutOfBoundsException();
        }
    }

    private static void argument(boolean fine) {
        if (!fine) {
            throw new IllegalArgumentException();
        }
    }

    private static void state(boolean fine) {
        if (!fine) {
            throw new IllegalStateException();
        }
    }

    private static void span(int b, int n) {
        index(b >= 0 && b <= 255);
        argument(n >= 1 && n <= 99);
        state(b + n <= 256);
    }
}
