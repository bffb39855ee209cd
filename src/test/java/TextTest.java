/** The promises 2 to 5: append, clearText, errorPosition, load. */
public final class TextTest {
    public static void main(String[] args) {
        append();
        clearText();
        errorPosition();
        errorPositionOfEveryDigit();
        load();
        loadMakesNew();
        loadThatThrows();
        loadLeavesOut();
        Check.end();
    }

    private static void append() {
        IdleDiscards x = new IdleDiscards();
        Check.argument("append(-1)", () -> x.append(-1));
        Check.argument("append(256)", () -> x.append(256));
        Check.argument("append(65536 + 68)", () -> x.append(65536 + 68));
        Check.argument("append(least)", () -> x.append(Integer.MIN_VALUE));
        Check.due("append(0)", x.append(0), 1);
        Check.due("append(255)", x.append(255), 2);
        for (int i = 3; i <= 120; i++) {
            Check.due("append(68)", x.append(68), i);
        }
        Check.state("append(68) to 120", () -> x.append(68));
        Check.argument("append(256) to 120", () -> x.append(256));
        Check.argument("append(-1) to 120", () -> x.append(-1));
        Check.due("clearText() of 120", x.clearText(), 120);
        Check.due("append(68) again", x.append(68), 1);
    }

    private static void clearText() {
        IdleDiscards x = new IdleDiscards();
        Check.due("clearText() of nothing", x.clearText(), 0);
        Check.text(x, "Di05");
        Check.due("clearText()", x.clearText(), 4);
        Check.due("clearText() again", x.clearText(), 0);
        Check.due("errorPosition() of nothing", x.errorPosition(), 0);
    }

    private static void errorAt(String text, int want) {
        IdleDiscards x = new IdleDiscards();
        Check.text(x, text);
        Check.due("errorPosition() of " + text, x.errorPosition(), want);
        Check.due("errorPosition() again", x.errorPosition(), want);
        Check.due("the length of " + text, x.clearText(), text.length());
    }

    private static void errorPosition() {
        errorAt("", 0);
        errorAt("d", 0);
        errorAt("w00001", 0);
        errorAt("D", -1);
        errorAt("DD", 1);
        errorAt("D ", 1);
        errorAt("Dx", 1);
        errorAt("DW", 1);
        errorAt("D0", 1);
        errorAt("Dw", 2);
        errorAt("Dw0", 3);
        errorAt("Dw00", 4);
        errorAt("Dw000", 5);
        errorAt("Dw0000", 6);
        errorAt("Dw00001", -1);
        errorAt("Dw00000", 6);
        errorAt("Dw0000a", 6);
        errorAt("Dw25599", -1);
        errorAt("Dw25501", -1);
        errorAt("Dw256", 4);
        errorAt("Dw260", 3);
        errorAt("Dw300", 2);
        errorAt("Dw99", 2);
        errorAt("Dw0 ", 3);
        errorAt("Dw-01", 2);
        errorAt("Df25599", -1);
        errorAt("Df25600", 4);
        errorAt("Df00000", 6);
        errorAt("Di", 2);
        errorAt("Di0", 3);
        errorAt("Di00", 3);
        errorAt("Di01", -1);
        errorAt("Di60", -1);
        errorAt("Di61", 3);
        errorAt("Di7", 2);
        errorAt("Di5w", 3);
        errorAt("Dp", 2);
        errorAt("Dp3", 2);
        errorAt("Dp2", 3);
        errorAt("Dp225599", -1);
        errorAt("Dp0256", 5);
        errorAt("Dp000000", 7);
        errorAt("Dp000010", -1);
        errorAt("Ds", 2);
        errorAt("Ds6", 2);
        errorAt("Ds5", 3);
        errorAt("Ds59", 4);
        errorAt("Ds599", -1);
        errorAt("Ds000", -1);
        errorAt("Ds0004", 5);
        errorAt("Dw00001f00001i60p000001s000", -1);
        errorAt("Dw00001f00001i60p000001s000 ", 27);
        errorAt("Dw00001f00001i60p000001s00", 26);
        errorAt("D" + "s000".repeat(29) + "i01", -1);
        errorAt("D" + "s000".repeat(29) + "s00", 120);
        errorAt("D" + "s000".repeat(29) + "s0x", 119);
        errorAt("D" + (char) 255, 1);
        errorAt("D" + (char) 0, 1);
    }

    private static void errorPositionOfEveryDigit() {
        for (int n = 0; n < 1000; n++) {
            int block = n < 256 ? -1 : n < 260 ? 4 : n < 300 ? 3 : 2;
            errorAt(String.format("Dw%03d01", n), block);
        }
        for (int n = 0; n < 100; n++) {
            errorAt(String.format("Df000%02d", n), n == 0 ? 6 : -1);
            errorAt(String.format("Di%02d", n), n == 0 ? 3 : n <= 60 ? -1 : n < 70 ? 3 : 2);
        }
        for (int c = 0; c < 256; c++) {
            boolean command = "wfips".indexOf(c) >= 0;
            errorAt("D" + (char) c, command ? 2 : 1);
            errorAt("Di0" + (char) c, c >= '1' && c <= '9' ? -1 : 3);
        }
    }

    private static void load() {
        IdleDiscards x = new IdleDiscards();
        Check.text(x, "Dw00064f00064i04p100009s404");
        Check.due("load()", x.load(), 0);
        IdleDiscards y = new IdleDiscards();
        y.write(0, 64);
        y.free(0, 64);
        y.run(4);
        y.pin(1, 0, 9);
        y.set(4, 4);
        Check.same("the state behind load()", Check.view(x), Check.view(y));
        Check.due("about(7)", x.about(7), 24);
        Check.due("setting(4)", x.setting(4), 4);
        Check.due("pinned(1, 1)", x.pinned(1, 1), 9);
        Check.due("clearText(), for load() keeps the text", x.clearText(), 27);
        Check.text(x, "D");
        Check.due("load() of D", x.load(), 0);
        Check.same("the state behind load() of D", Check.view(x), Check.view(new IdleDiscards()));
    }

    private static void loadMakesNew() {
        IdleDiscards x = new IdleDiscards();
        x.write(5, 50);
        x.free(9, 8);
        x.pin(0, 1, 2);
        x.set(3, 0);
        x.run(9);
        for (int b = 100; b < 140; b += 2) {
            x.write(b, 1);
        }
        x.free(100, 40);
        x.flush();
        Check.due("about(8) ahead of load(): 20 single blocks, and 2 ranges of before", x.about(8), 6);
        x.save(0);
        x.save(1);
        Check.text(x, "Dw20010");
        Check.due("load() over a state", x.load(), 0);
        IdleDiscards y = new IdleDiscards();
        y.write(200, 10);
        Check.same("the state behind load() over a state", Check.view(x), Check.view(y));
        Check.state("undo() behind load()", x::undo);
        Check.state("restore(0) behind load()", () -> x.restore(0));
        Check.state("restore(1) behind load()", () -> x.restore(1));
        Check.due("load() again", x.load(), 0);
        Check.text(x, "Dw00004f00004");
        Check.due("load() where a pin was", x.load(), 0);
        Check.due("range(0, 4): the pin is gone", x.range(0, 4), 1);
        x.set(0, 4);
        Check.due("undo() of the one action behind load()", x.undo(), 0);
    }

    private static void loadThatThrows() {
        IdleDiscards x = new IdleDiscards();
        Check.state("load() of nothing", x::load);
        x.write(5, 50);
        x.free(9, 8);
        x.save(1);
        x.run(2);
        Check.text(x, "Dw000010");
        String before = Check.view(x);
        Check.state("load() of Dw000010", x::load);
        Check.same("the state behind load() that throws", Check.view(x), before);
        Check.due("undo(): the states are still remembered", x.undo(), 2);
        Check.due("restore(1): the slot is still full", x.restore(1), 0);
        Check.due("clearText(): the text is still there", x.clearText(), 8);
        Check.text(x, "Dw00");
        Check.state("load() of Dw00", x::load);
    }

    private static void loadLeavesOut() {
        IdleDiscards x = new IdleDiscards();
        Check.text(x, "Dw20099w19858f25099f00001p025502s005s499s503s121s241s351i02s220");
        Check.due("load() of what is partly wrong", x.load(), 9);
        Check.due("about(0)", x.about(0), 58);
        Check.due("about(4)", x.about(4), 2);
        Check.due("pinned(0, 0)", x.pinned(0, 0), -1);
        int[] settings = {2, 2, 20, 3, 2, 0};
        for (int what = 0; what <= 5; what++) {
            Check.due("setting(" + what + ")", x.setting(what), settings[what]);
        }
        Check.text(x, "Ds004s120s240s350s409s502w15799p015799");
        Check.due("load() of the greatest values", x.load(), 0);
        Check.text(x, "Dw00009w10009w20009");
        Check.text(x, "Dw00009");
        Check.due("load() of a text that was longer before", x.load(), 0);
        Check.due("about(0): only what stands in the text", x.about(0), 9);
        Check.text(x, "D" + "s000".repeat(29) + "i01");
        Check.due("load() of a full text", x.load(), 0);
        Check.due("about(4) behind it", x.about(4), 1);
        Check.text(x, "Ds004s120s240s350s409s502w15799p015799");
        Check.due("load() once more", x.load(), 0);
        Check.due("setting(3)", x.setting(3), 50);
        Check.due("about(9)", x.about(9), 99);
    }
}
