import java.util.ArrayList;
import java.util.List;
import java.util.Random;

/**
 * Runs of calls, the same for the program and the model; the seeds are fixed, so each run is always the same.
 * All that there is at the end of a run is asked on other objects that have had the same calls, for no object is used
 * for more calls than the document promises something about.
 */
public final class ModelTest {
    private static final int MOST_CALLS = 512;
    private static final int RUNS = 1500;
    /** A run ends soon behind so many calls; a text can be 120 more. */
    private static final int LONGEST_RUN = 250;

    private interface Call {
        long on(IdleDiscards x);
    }

    private interface ModelCall {
        long answer();
    }

    private IdleDiscards program = new IdleDiscards();
    private final List<Call> calls = new ArrayList<>();
    private int callsOfProgram = 0;
    private final Model model = new Model();
    private final Random random;
    private final int seed;

    private ModelTest(int seed) {
        this.seed = seed;
        this.random = new Random(seed);
    }

    public static void main(String[] args) {
        for (int seed = 1; seed <= RUNS && Check.countWrong() < 10; seed++) {
            ModelTest test = new ModelTest(seed);
            test.settle();
            int length = test.random.nextInt(LONGEST_RUN);
            while (test.calls.size() < length && Check.countWrong() < 10) {
                test.call();
            }
            test.compareAll();
        }
        Check.end();
    }

    private void both(String call, Call ofProgram, ModelCall ofModel) {
        calls.add(ofProgram);
        ask(call, ofProgram, ofModel);
    }

    /** Asks a question that is not put again to other objects. */
    private void ask(String call, Call ofProgram, ModelCall ofModel) {
        callsOfProgram++;
        if (callsOfProgram > MOST_CALLS) {
            throw new IllegalStateException("too many calls on one object");
        }
        Check.same("seed " + seed + ", call " + callsOfProgram + ", " + call, outcome(ofProgram), outcome(ofModel));
    }

    private void askOnOther(String call, Call ofProgram, ModelCall ofModel) {
        if (callsOfProgram == MOST_CALLS) {
            program = new IdleDiscards();
            calls.forEach(this::outcome);
            callsOfProgram = calls.size();
        }
        ask(call, ofProgram, ofModel);
    }

    private String outcome(Call call) {
        return outcome(() -> call.on(program));
    }

    /** The answer as a text, or the exact class of what the call throws. */
    private static String outcome(ModelCall call) {
        try {
            return Long.toString(call.answer());
        } catch (RuntimeException e) {
            return "throws." + e.getClass().getSimpleName();
        }
    }

    /** Most runs begin with other settings and a device that is full, so that many things happen soon. */
    private void settle() {
        if (seed % 3 == 0) {
            return;
        }
        boolean crowded = seed % 3 == 1;
        set(0, random.nextInt(crowded ? 3 : 5));
        set(1, random.nextInt(3));
        set(2, random.nextInt(41));
        set(3, random.nextInt(crowded ? 3 : 8));
        set(4, random.nextInt(4));
        set(5, random.nextInt(3));
        write(0, 99);
        write(99, 99);
        write(198, 58);
        if (crowded) {
            crowd();
        }
    }

    /** 14 to 16 ranges, and pins in some of them, so that commands and writings make too many. */
    private void crowd() {
        int ranges = 14 + random.nextInt(3);
        for (int i = 0; i < ranges; i++) {
            free(16 * i + random.nextInt(4), 3 + random.nextInt(9));
            if (random.nextInt(6) == 0) {
                run(1);
            }
        }
        for (int k = 0; k < 3; k++) {
            pin(k, random.nextInt(256), 1 + random.nextInt(20));
        }
    }

    private int block() {
        switch (random.nextInt(12)) {
            case 0: return random.nextInt(12) + 247;
            case 1: return random.nextInt(6) - 2;
            default: return random.nextInt(256);
        }
    }

    private int length() {
        switch (random.nextInt(16)) {
            case 0: return random.nextInt(104) - 2;
            case 1: return 1 + random.nextInt(99);
            case 2:
            case 3:
            case 4:
            case 5: return 1 + random.nextInt(40);
            default: return 1 + random.nextInt(6);
        }
    }

    private int number(int most) {
        return random.nextInt(10) == 0 ? random.nextInt(most + 5) - 2 : random.nextInt(most + 1);
    }

    private void write(int b, int n) {
        both("write(" + b + ", " + n + ")", x -> x.write(b, n), () -> model.write(b, n));
    }

    private void free(int b, int n) {
        both("free(" + b + ", " + n + ")", x -> x.free(b, n), () -> model.free(b, n));
    }

    private void run(int n) {
        both("run(" + n + ")", x -> x.run(n), () -> model.run(n));
    }

    private void pin(int k, int b, int n) {
        both("pin(" + k + ", " + b + ", " + n + ")", x -> x.pin(k, b, n), () -> model.pin(k, b, n));
    }

    private void set(int what, int v) {
        both("set(" + what + ", " + v + ")", x -> x.set(what, v), () -> model.set(what, v));
    }

    private void call() {
        int kind = random.nextInt(100);
        if (kind < 18) {
            write(block(), length());
        } else if (kind < 44) {
            free(block(), length());
        } else if (kind < 58) {
            ticks();
        } else if (kind < 70) {
            pinsAndSettings();
        } else if (kind < 76) {
            past();
        } else if (kind < 79) {
            text();
        } else if (kind < 90) {
            whatWouldBe();
        } else if (kind < 97) {
            scripts();
        } else {
            view();
        }
    }

    private void ticks() {
        if (random.nextInt(8) == 0) {
            both("flush()", IdleDiscards::flush, model::flush);
            return;
        }
        run(random.nextInt(8) == 0 ? random.nextInt(64) - 1 : 1 + random.nextInt(5));
    }

    private void pinsAndSettings() {
        int k = number(2);
        int b = block();
        int n = length();
        switch (random.nextInt(4)) {
            case 0:
                both("unpin(" + k + ")", x -> x.unpin(k), () -> model.unpin(k));
                break;
            case 1:
                int what = number(5);
                set(what, number(what == 0 ? 4 : what == 1 ? 4 : what == 2 ? 40 : what == 3 ? 6 : what == 4 ? 5 : 2));
                break;
            default:
                pin(k, b, n);
                break;
        }
    }

    private void past() {
        int slot = number(1);
        switch (random.nextInt(6)) {
            case 0:
            case 1:
                both("save(" + slot + ")", x -> x.save(slot), () -> model.save(slot));
                break;
            case 2:
                both("restore(" + slot + ")", x -> x.restore(slot), () -> model.restore(slot));
                break;
            default:
                int times = random.nextInt(12) == 0 ? 16 : 1 + random.nextInt(3);
                for (int i = 0; i < times; i++) {
                    both("undo()", IdleDiscards::undo, model::undo);
                }
                break;
        }
    }

    private void text() {
        both("clearText()", IdleDiscards::clearText, model::clearText);
        String text = log();
        for (int i = 0; i < text.length(); i++) {
            char c = text.charAt(i);
            both("append(" + (int) c + ")", x -> x.append(c), () -> model.append(c));
        }
        both("errorPosition() of " + text, IdleDiscards::errorPosition, model::errorPosition);
        if (random.nextInt(3) == 0) {
            both("load() of " + text, IdleDiscards::load, model::load);
        }
    }

    /** Mostly a log; sometimes one with a wrong character, or one that ends too soon. */
    private String log() {
        StringBuilder text = new StringBuilder("D");
        int commands = random.nextInt(20);
        for (int i = 0; i < commands && text.length() < 113; i++) {
            String span = String.format("%03d%02d", random.nextInt(256), 1 + random.nextInt(random.nextInt(3) == 0 ? 99 : 9));
            switch (random.nextInt(6)) {
                case 0:
                case 1: text.append('w').append(span); break;
                case 2: text.append('f').append(span); break;
                case 3: text.append('i').append(String.format("%02d", 1 + random.nextInt(60))); break;
                case 4: text.append('p').append(random.nextInt(3)).append(span); break;
                default: text.append('s').append(random.nextInt(6)).append(String.format("%02d", random.nextInt(60))); break;
            }
        }
        int place = random.nextInt(text.length());
        if (random.nextInt(3) == 0) {
            text.setCharAt(place, "Dwfips0123456789 :/".charAt(random.nextInt(19)));
        }
        if (random.nextInt(6) == 0) {
            text.setLength(place);
        }
        if (random.nextInt(12) == 0) {
            text.append("w00009f00001i05w10099w09999w19803f10002f10502w00009f00001i05w10099w09999w19803f10002f10502i60w00001"
                    .repeat(2));
        }
        // A little more than the text buffer takes.
        text.setLength(Math.min(text.length(), 122));
        return text.toString();
    }

    private void whatWouldBe() {
        int b = block();
        int n = length();
        int what = number(3);
        switch (random.nextInt(6)) {
            case 0:
                both("next(" + what + ")", x -> x.next(what), () -> model.next(what));
                break;
            case 1:
                both("goneIn(" + b + ")", x -> x.goneIn(b), () -> model.goneIn(b));
                break;
            case 2:
                int ticks = number(100);
                both("coming(" + ticks + ", " + what + ")", x -> x.coming(ticks, what), () -> model.coming(ticks, what));
                break;
            case 3:
                int few = random.nextBoolean() ? number(60) : 1 + random.nextInt(6);
                both("bestGranule(" + few + ")", x -> x.bestGranule(few), () -> model.bestGranule(few));
                break;
            case 4:
                both("ifWritten(" + b + ", " + n + ")", x -> x.ifWritten(b, n), () -> model.ifWritten(b, n));
                break;
            default:
                both("stuck()", IdleDiscards::stuck, model::stuck);
                break;
        }
    }

    private void scripts() {
        if (random.nextInt(3) == 0) {
            long first = random.nextLong();
            int m = number(60);
            both("simulate(" + first + ", " + m + ")", x -> x.simulate(first, m), () -> model.simulate(first, m));
            return;
        }
        int n = number(3);
        long script = 0;
        int groups = random.nextInt(8) == 0 ? number(3) : n;
        for (int i = 0; i < groups; i++) {
            script = script * 1000000 + group();
        }
        long all = random.nextInt(20) == 0 ? -script : script;
        both("runScript(" + n + ", " + all + ")", x -> x.runScript(n, all), () -> model.runScript(n, all));
    }

    private long group() {
        int span = random.nextInt(random.nextInt(8) == 0 ? 1000 : 256) * 100 + random.nextInt(random.nextInt(8) == 0 ? 100 : 10);
        int asked = random.nextInt(random.nextInt(8) == 0 ? 1000 : 256) * 100 + random.nextInt(2);
        int slip = random.nextInt(8) == 0 ? new int[] {1, 10, 100, 1000, 10000}[random.nextInt(5)] : 0;
        switch (random.nextInt(10)) {
            case 0: return 100000 + span;
            case 1: return 200000 + span;
            case 2: return 300000 + random.nextInt(64) + slip;
            case 3: return 400000 + random.nextInt(7) * 10000 + random.nextInt(10) * 100 + slip;
            case 4: return 500000 + slip;
            case 5: return 600000 + asked + slip;
            case 6: return 700000 + random.nextInt(80) + slip;
            case 7: return 800000 + random.nextInt(18) + slip;
            case 8: return 900000 + asked + slip;
            default: return random.nextInt(1000000);
        }
    }

    /** Single questions, some of them about what there is not. */
    private void view() {
        int b = block();
        int k = random.nextInt(19) - 1;
        int pin = number(2);
        int what = random.nextInt(14) - 2;
        both("about(" + what + ")", x -> x.about(what), () -> model.about(what));
        both("block(" + b + ", " + what + ")", x -> x.block(b, what), () -> model.block(b, what));
        both("range(" + k + ", " + what + ")", x -> x.range(k, what), () -> model.range(k, what));
        both("pinned(" + pin + ", " + what + ")", x -> x.pinned(pin, what), () -> model.pinned(pin, what));
        both("setting(" + what + ")", x -> x.setting(what), () -> model.setting(what));
    }

    private void compareAll() {
        for (int what = 0; what <= 10; what++) {
            int w = what;
            askOnOther("about(" + w + ")", x -> x.about(w), () -> model.about(w));
        }
        for (int b = 0; b < 256; b++) {
            for (int what = 0; what <= 3; what++) {
                int at = b;
                int w = what;
                askOnOther("block(" + at + ", " + w + ")", x -> x.block(at, w), () -> model.block(at, w));
            }
        }
        for (int k = 0; k <= 16; k++) {
            for (int what = 0; what <= 5; what++) {
                int at = k;
                int w = what;
                askOnOther("range(" + at + ", " + w + ")", x -> x.range(at, w), () -> model.range(at, w));
            }
        }
        for (int what = 0; what <= 5; what++) {
            int w = what;
            askOnOther("setting(" + w + ")", x -> x.setting(w), () -> model.setting(w));
            askOnOther("pinned(" + w / 2 + ", " + w % 2 + ")", x -> x.pinned(w / 2, w % 2), () -> model.pinned(w / 2, w % 2));
        }
    }
}
