/** The promises 27 and 28: save, restore. */
public final class SlotsTest {
    public static void main(String[] args) {
        slots();
        wrongSlots();
        everythingIsKept();
        Check.end();
    }

    private static void slots() {
        IdleDiscards x = new IdleDiscards();
        Check.due("save(1)", x.save(1), 0);
        x.write(0, 9);
        x.free(0, 4);
        x.run(2);
        Check.due("save(0)", x.save(0), 2);
        String saved = Check.view(x);
        Check.due("undo(): save is no action, and forgets nothing", x.undo(), 2);
        x.run(7);
        x.append('D');
        Check.due("restore(0)", x.restore(0), 2);
        Check.same("the state behind restore(0)", Check.view(x), saved);
        Check.state("undo() behind restore(0)", x::undo);
        Check.due("clearText(): restore leaves the text alone", x.clearText(), 1);
        x.run(5);
        Check.due("restore(0): the slot keeps it", x.restore(0), 2);
        Check.same("the state behind restore(0) again", Check.view(x), saved);
        Check.due("restore(1)", x.restore(1), 0);
        Check.same("the state behind restore(1)", Check.view(x), Check.view(new IdleDiscards()));
        x.run(3);
        Check.due("save(1) over another", x.save(1), 3);
        x.run(1);
        Check.due("restore(1) of the new one", x.restore(1), 3);
        Check.due("restore(0) of the old one", x.restore(0), 2);
        x.run(1);
        Check.due("undo() of the one action behind restore", x.undo(), 0);
        for (int i = 0; i < 20; i++) {
            x.run(1);
        }
        x.restore(0);
        x.run(1);
        x.run(1);
        Check.due("undo() behind a restore that forgot fourteen states", x.undo(), 1);
        Check.due("about(4) behind it", x.about(4), 3);
        Check.due("undo() once more", x.undo(), 0);
        Check.due("about(4) behind it", x.about(4), 2);
    }

    private static void wrongSlots() {
        IdleDiscards x = new IdleDiscards();
        x.run(5);
        x.save(0);
        x.run(1);
        for (int slot : new int[] {-1, 2, Integer.MIN_VALUE, Integer.MAX_VALUE}) {
            Check.index("save(" + slot + ")", () -> x.save(slot));
            Check.index("restore(" + slot + ")", () -> x.restore(slot));
        }
        Check.state("restore(1) of nothing", () -> x.restore(1));
        Check.due("about(4) behind wrong slots", x.about(4), 6);
        Check.due("undo() behind wrong slots", x.undo(), 1);
    }

    private static void everythingIsKept() {
        IdleDiscards x = new IdleDiscards();
        for (int what = 0; what <= 5; what++) {
            x.set(what, 1);
        }
        x.write(0, 99);
        for (int b = 0; b < 40; b += 2) {
            x.free(b, 1);
        }
        x.pin(0, 3, 3);
        x.pin(2, 90, 9);
        x.free(80, 15);
        x.set(2, 9);
        x.run(4);
        String before = Check.view(x);
        Check.due("about(8): some are dropped", x.about(8) > 0 ? 1 : 0, 1);
        Check.due("about(7): some are discarded", x.about(7) > 0 ? 1 : 0, 1);
        x.save(1);
        for (int what = 0; what <= 5; what++) {
            x.set(what, 0);
        }
        x.unpin(0);
        x.pin(1, 9, 9);
        x.write(0, 99);
        x.free(0, 50);
        x.run(9);
        x.flush();
        x.restore(1);
        Check.same("the state behind restore(1)", Check.view(x), before);
    }
}
