/** Promises 1 to 3: a new object, set, info. */
public final class SettingsTest {
    public static void main(String[] args) {
        newMineHasNothing();
        newMineHasInitialSettings();
        newMineHasEmptyText();
        newMineHasNoCopies();
        minesShareNothing();
        lastCallCounts();
        setTakesThreeSettings();
        setDrift();
        setTolerance();
        setReach();
        setTellsPreviousValue();
        setIsUndoable();
        infoTakesEightNumbers();
        infoOfEmptyMine();
        infoOfFullMine();
        infoFollowsChanges();
        infoLooks();
        Check.end("SettingsTest");
    }

    private static void newMineHasNothing() {
        Check.sentence("Promise 1: without wires, joins and traverses");
        ShaftPlumb x = new ShaftPlumb();
        for (int what = 3; what <= 7; what++) {
            Check.due(x.info(what), 0);
        }
        Check.index(ShaftPlumb::new, mine -> mine.wire(0, 0));
        Check.index(ShaftPlumb::new, mine -> mine.joinOf(0, 0));
        Check.index(ShaftPlumb::new, mine -> mine.traverse(0, 0));
        Check.index(ShaftPlumb::new, mine -> mine.leg(0, 0, 0));
    }

    private static void newMineHasInitialSettings() {
        Check.sentence("Promise 1: with the initial settings 20, 30 and 500");
        ShaftPlumb x = new ShaftPlumb();
        Check.due(x.info(0), 20);
        Check.due(x.info(1), 30);
        Check.due(x.info(2), 500);
    }

    private static void newMineHasEmptyText() {
        Check.sentence("Promise 1: with an empty text");
        Check.due(new ShaftPlumb().clearText(), 0);
        Check.due(new ShaftPlumb().fault(), ShaftPlumb.NONE);
        Check.due(new ShaftPlumb().run(), 0);
        Check.due(new ShaftPlumb().type('k'), 1);
    }

    private static void newMineHasNoCopies() {
        Check.sentence("Promise 1: nothing to undo in a new mine");
        Check.state(ShaftPlumb::new, mine -> mine.undo());
    }

    private static void minesShareNothing() {
        Check.sentence("Promise 1: what one mine is told is nothing to another one");
        ShaftPlumb one = new ShaftPlumb();
        long before = one.checksum();
        ShaftPlumb other = Mines.full();
        other.set(0, 999);
        Mines.type(other, "k0;");
        other.run();
        Check.due(one.checksum(), before);
        Check.due(new ShaftPlumb().checksum(), before);
    }

    private static void lastCallCounts() {
        Check.sentence("What it is: the 512th call is still promised");
        ShaftPlumb x = Mines.full();
        for (int used = 116; used < 510; used += 2) {
            x.set(2, used);
            x.undo();
        }
        Check.due(x.close(3, 0, 5), 8);
        ShaftPlumb twin = Mines.full();
        twin.close(3, 0, 5);
        Check.due(x.checksum(), twin.checksum());
    }

    private static void setTakesThreeSettings() {
        Check.sentence("Promise 2: what is a setting, 0 to 2");
        Check.range(Check.ARGUMENT, ShaftPlumb::new, 0, 2, (x, what) -> x.set(what, 5));
        Check.argument(ShaftPlumb::new, x -> x.set(-1, -1));
        Check.argument(ShaftPlumb::new, x -> x.set(3, 1000000));
    }

    private static void setDrift() {
        Check.sentence("SETTINGS: 0 the drift, 0 to 999");
        Check.range(Check.ARGUMENT, ShaftPlumb::new, 0, 999, (x, value) -> x.set(0, value));
        keeps(0, 0);
        keeps(0, 999);
    }

    private static void setTolerance() {
        Check.sentence("SETTINGS: 1 the tolerance, 1 to 600");
        Check.range(Check.ARGUMENT, ShaftPlumb::new, 1, 600, (x, value) -> x.set(1, value));
        keeps(1, 1);
        keeps(1, 600);
    }

    private static void setReach() {
        Check.sentence("SETTINGS: 2 the reach, 0 to 999999");
        Check.range(Check.ARGUMENT, ShaftPlumb::new, 0, 999999, (x, value) -> x.set(2, value));
        keeps(2, 0);
        keeps(2, 999999);
    }

    private static void keeps(int what, int value) {
        ShaftPlumb x = new ShaftPlumb();
        x.set(what, value);
        int[] want = {20, 30, 500};
        want[what] = value;
        for (int i = 0; i < 3; i++) {
            Check.due(x.info(i), want[i]);
        }
    }

    private static void setTellsPreviousValue() {
        Check.sentence("Promise 2: returns the previous value");
        ShaftPlumb x = new ShaftPlumb();
        Check.due(x.set(0, 0), 20);
        Check.due(x.set(0, 999), 0);
        Check.due(x.set(1, 600), 30);
        Check.due(x.set(1, 1), 600);
        Check.due(x.set(2, 999999), 500);
        Check.due(x.set(2, 999999), 999999);
    }

    private static void setIsUndoable() {
        Check.sentence("Promise 2: undoable, also if nothing changes");
        Check.undoable(ShaftPlumb::new, x -> x.set(0, 999));
        Check.undoable(Mines::closed, x -> x.set(1, 1));
        Check.undoable(ShaftPlumb::new, x -> x.set(1, 30));
        Check.undoable(Mines::full, x -> x.set(2, 500));
    }

    private static void infoTakesEightNumbers() {
        Check.sentence("Promise 3: what is 0 to 7");
        Check.range(Check.ARGUMENT, ShaftPlumb::new, 0, 7, (x, what) -> x.info(what));
        Check.range(Check.ARGUMENT, Mines::full, 0, 7, (x, what) -> x.info(what));
    }

    private static void infoOfEmptyMine() {
        Check.sentence("Promise 3: an empty mine");
        int[] want = {20, 30, 500, 0, 0, 0, 0, 0};
        for (int what = 0; what < want.length; what++) {
            Check.due(new ShaftPlumb().info(what), want[what]);
        }
    }

    private static void infoOfFullMine() {
        Check.sentence("Promise 3: a full mine");
        ShaftPlumb x = Mines.full();
        int[] want = {20, 30, 500, 6, 4, 4, 48, 54};
        for (int what = 0; what < want.length; what++) {
            Check.due(x.info(what), want[what]);
        }
    }

    private static void infoFollowsChanges() {
        Check.sentence("Promise 3: legs of all traverses, turning points of all wires");
        ShaftPlumb x = Mines.legs(2);
        x.begin(1);
        x.addLeg(1, 0, 5);
        x.hang(5, 5);
        x.swing(2, 7);
        Check.due(x.info(6), 3);
        Check.due(x.info(7), 7);
        x.dropLeg(0);
        x.still(1);
        Check.due(x.info(6), 2);
        Check.due(x.info(7), 4);
        x.undo();
        Check.due(x.info(7), 7);
        x.undo();
        Check.due(x.info(6), 3);
    }

    private static void infoLooks() {
        Check.sentence("Promise 3: not undoable, info only looks");
        Check.looks(Mines::closed, x -> x.info(0));
        Check.looks(Mines::closed, x -> x.info(7));
    }
}
