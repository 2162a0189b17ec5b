/** Promises 4 to 7: hang, swing, still, wire. */
public final class WiresTest {
    private static final int NONE = ShaftPlumb.NONE;

    public static void main(String[] args) {
        hangTakesEastings();
        hangTakesNorthings();
        hangTakesSixWires();
        hangOrder();
        hangMakesEmptyWire();
        hangIsUndoable();
        swingTakesWires();
        swingTakesReadings();
        swingTakesNine();
        swingOrder();
        swingIsUndoable();
        stillTakesWires();
        stillTellsHowMany();
        stillMakesRoom();
        stillIsUndoable();
        ninthTurnComesBack();
        wireTakesWires();
        wireTakesSixNumbers();
        wireOrder();
        wireTellsNumbers();
        wireTellsOfSixth();
        restNeedsThree();
        restIsRounded();
        troubleOfFewTurns();
        troubleOfDrift();
        troubleOfLeastAndGreatestDrift();
        troubleOfOneBetween();
        greatestDifference();
        wireLooks();
        Check.end("WiresTest");
    }

    private static ShaftPlumb nineTurns() {
        return Mines.wire(0, 999, 0, 999, 0, 999, 0, 999, 0);
    }

    // ---- Promise 4

    private static void hangTakesEastings() {
        Check.sentence("Promise 4: an easting is -1000000 to 1000000");
        Check.range(Check.ARGUMENT, ShaftPlumb::new, -1000000, 1000000, (x, east) -> x.hang(east, 0));
        ShaftPlumb x = new ShaftPlumb();
        x.hang(-1000000, 1000000);
        Check.due(x.wire(0, 0), -1000000);
    }

    private static void hangTakesNorthings() {
        Check.sentence("Promise 4: a northing is -1000000 to 1000000");
        Check.range(Check.ARGUMENT, ShaftPlumb::new, -1000000, 1000000, (x, north) -> x.hang(0, north));
        ShaftPlumb x = new ShaftPlumb();
        x.hang(-1000000, 1000000);
        Check.due(x.wire(0, 1), 1000000);
    }

    private static void hangTakesSixWires() {
        Check.sentence("Promise 4: at most 6 wires, numbered from 0");
        ShaftPlumb x = new ShaftPlumb();
        for (int i = 0; i < 6; i++) {
            Check.due(x.hang(10 * i, -10 * i), i);
        }
        Check.due(x.wire(5, 0), 50);
        Check.due(x.wire(0, 1), 0);
        Check.state(Mines::sixWires, mine -> mine.hang(0, 0));
        Check.state(Mines::full, mine -> mine.hang(-1000000, 1000000));
    }

    private static void hangOrder() {
        Check.sentence("Promise 4: out of range comes before a seventh wire");
        Check.argument(Mines::sixWires, x -> x.hang(1000001, 0));
        Check.argument(Mines::sixWires, x -> x.hang(0, -1000001));
    }

    private static void hangMakesEmptyWire() {
        Check.sentence("Promise 4: without turning points, also in the place of a wire that was undone");
        ShaftPlumb x = new ShaftPlumb();
        x.hang(1, 2);
        x.swing(0, 100);
        x.undo();
        x.undo();
        Check.due(x.hang(3, 4), 0);
        int[] want = {3, 4, 0, NONE, 1, 0};
        for (int what = 0; what < want.length; what++) {
            Check.due(x.wire(0, what), want[what]);
        }
    }

    private static void hangIsUndoable() {
        Check.sentence("Promise 4: undoable");
        Check.undoable(ShaftPlumb::new, x -> x.hang(1, 2));
        Check.undoable(Mines::closed, x -> x.hang(0, 0));
        ShaftPlumb x = Mines.sixWires();
        x.undo();
        Check.index(() -> fiveWires(), mine -> mine.wire(5, 0));
        Check.due(x.hang(7, 7), 5);
    }

    private static ShaftPlumb fiveWires() {
        ShaftPlumb x = Mines.sixWires();
        x.undo();
        return x;
    }

    // ---- Promise 5

    private static void swingTakesWires() {
        Check.sentence("Promise 5: there is no such wire");
        Check.index(ShaftPlumb::new, x -> x.swing(0, 5));
        Check.range(Check.INDEX, Mines::wires, 0, 1, (x, wire) -> x.swing(wire, 5));
        Check.range(Check.INDEX, Mines::sixWires, 0, 5, (x, wire) -> x.swing(wire, 5));
    }

    private static void swingTakesReadings() {
        Check.sentence("Promise 5: a reading is 0 to 999");
        Check.range(Check.ARGUMENT, Mines::wires, 0, 999, (x, reading) -> x.swing(1, reading));
    }

    private static void swingTakesNine() {
        Check.sentence("Promise 5: at most 9 turning points");
        ShaftPlumb x = Mines.wires();
        for (int i = 4; i <= 9; i++) {
            Check.due(x.swing(1, 100), i);
        }
        Check.due(x.wire(1, 2), 9);
        Check.due(x.wire(0, 2), 3);
        Check.state(WiresTest::nineTurns, mine -> mine.swing(0, 0));
        Check.state(Mines::full, mine -> mine.swing(5, 999));
    }

    private static void swingOrder() {
        Check.sentence("Promise 5: no such wire, then out of range, then 9 turning points");
        Check.index(Mines::wires, x -> x.swing(2, 1000));
        Check.index(WiresTest::nineTurns, x -> x.swing(-1, -1));
        Check.argument(WiresTest::nineTurns, x -> x.swing(0, 1000));
        Check.argument(WiresTest::nineTurns, x -> x.swing(0, -1));
    }

    private static void swingIsUndoable() {
        Check.sentence("Promise 5: undoable");
        Check.undoable(() -> Mines.wire(), x -> x.swing(0, 999));
        Check.undoable(Mines::closed, x -> x.swing(0, 0));
        ShaftPlumb x = nineTurns();
        Check.due(x.undo(), 3);
        Check.due(x.wire(0, 2), 8);
        Check.due(x.swing(0, 5), 9);
    }

    // ---- Promise 6

    private static void stillTakesWires() {
        Check.sentence("Promise 6: there is no such wire");
        Check.index(ShaftPlumb::new, x -> x.still(0));
        Check.range(Check.INDEX, Mines::wires, 0, 1, (x, wire) -> x.still(wire));
        Check.range(Check.INDEX, Mines::sixWires, 0, 5, (x, wire) -> x.still(wire));
    }

    private static void stillTellsHowMany() {
        Check.sentence("Promise 6: returns how many it had");
        Check.due(Mines.wire().still(0), 0);
        Check.due(Mines.wire(7).still(0), 1);
        Check.due(nineTurns().still(0), 9);
        ShaftPlumb x = Mines.wires();
        Check.due(x.still(1), 3);
        Check.due(x.still(1), 0);
        Check.due(x.wire(0, 2), 3);
    }

    private static void stillMakesRoom() {
        Check.sentence("Promise 6: removes all turning points, so that 9 others can be read");
        ShaftPlumb x = nineTurns();
        x.still(0);
        Check.due(x.wire(0, 2), 0);
        Check.due(x.wire(0, 3), NONE);
        Check.due(x.wire(0, 4), 1);
        Check.due(x.wire(0, 5), 0);
        for (int i = 1; i <= 9; i++) {
            Check.due(x.swing(0, 50), i);
        }
        Check.due(x.wire(0, 3), 50);
    }

    private static void stillIsUndoable() {
        Check.sentence("Promise 6: undoable, also if the wire has no turning points");
        Check.undoable(() -> Mines.wire(), x -> x.still(0));
        Check.undoable(WiresTest::nineTurns, x -> x.still(0));
        Check.undoable(Mines::closed, x -> x.still(0));
        ShaftPlumb x = Mines.wires();
        x.still(0);
        Mines.read(x, 0, 7, 7);
        x.undo();
        x.undo();
        x.undo();
        Check.due(x.wire(0, 3), 100);
    }

    private static void ninthTurnComesBack() {
        Check.sentence("UNDO: all 9 turning points come back, though 9 others have been read since");
        ShaftPlumb x = Mines.wire(10, 20, 10, 20, 10, 20, 10, 20, 30);
        Check.due(x.wire(0, 3), (10 + 30 + 2 * 110) / 16);
        x.still(0);
        Mines.type(x, "t0,7;t0,7;t0,7;t0,7;t0,7;t0,7;t0,7;t0,7;t0,7;");
        Check.due(x.run(), 9);
        x.undo();
        x.undo();
        Check.due(x.wire(0, 3), (10 + 30 + 2 * 110) / 16);
        Check.due(x.wire(0, 5), 20);
        x.set(0, 19);
        Check.due(x.wire(0, 4), 2);
    }

    // ---- Promise 7

    private static void wireTakesWires() {
        Check.sentence("Promise 7: there is no such wire");
        Check.index(ShaftPlumb::new, x -> x.wire(0, 0));
        Check.range(Check.INDEX, Mines::wires, 0, 1, (x, wire) -> x.wire(wire, 5));
        Check.range(Check.INDEX, Mines::sixWires, 0, 5, (x, wire) -> x.wire(wire, 0));
    }

    private static void wireTakesSixNumbers() {
        Check.sentence("Promise 7: what is 0 to 5");
        Check.range(Check.ARGUMENT, Mines::wires, 0, 5, (x, what) -> x.wire(0, what));
        Check.range(Check.ARGUMENT, () -> Mines.wire(), 0, 5, (x, what) -> x.wire(0, what));
    }

    private static void wireOrder() {
        Check.sentence("Promise 7: no such wire comes before a wrong what");
        Check.index(ShaftPlumb::new, x -> x.wire(0, 6));
        Check.index(Mines::wires, x -> x.wire(2, -1));
    }

    private static void wireTellsNumbers() {
        Check.sentence("Promise 7: 0 its easting, 1 its northing, 2 the number of its turning points");
        ShaftPlumb x = new ShaftPlumb();
        x.hang(12, -34);
        Check.due(x.wire(0, 0), 12);
        Check.due(x.wire(0, 1), -34);
        for (int i = 0; i <= 9; i++) {
            Check.due(x.wire(0, 2), i);
            if (i < 9) {
                x.swing(0, i);
            }
        }
    }

    private static void wireTellsOfSixth() {
        Check.sentence("Promise 7: the sixth wire is told like the others");
        ShaftPlumb x = Mines.sixWires();
        Mines.read(x, 5, 7, 8, 9);
        int[] want = {5, -5, 3, 8, 0, 2};
        for (int what = 0; what < want.length; what++) {
            Check.due(x.wire(5, what), want[what]);
        }
        x.set(0, 1);
        Check.due(x.wire(5, 4), 2);
        Check.due(x.wire(4, 4), 1);
    }

    private static void rest(int want, int... readings) {
        Check.due(Mines.wire(readings).wire(0, 3), want);
    }

    private static void restNeedsThree() {
        Check.sentence("Promise 7: 3 its rest, NONE with fewer than 3 turning points");
        rest(NONE);
        rest(NONE, 500);
        rest(NONE, 500, 500);
        rest(500, 500, 500, 500);
        rest(0, 0, 0, 0);
        rest(999, 999, 999, 999, 999, 999, 999, 999, 999, 999);
        Check.sentence("Promise 7: the rest of a wire in trouble 2");
        rest(549, 0, 600, 999);
    }

    private static void restIsRounded() {
        Check.sentence("WIRES: (the first one + the last one + 2 * the sum of all others) / (2 * (n - 1))");
        rest(0, 0, 1, 1);
        rest(1, 1, 1, 1);
        rest(2, 1, 2, 4);
        rest(17 / 6, 1, 2, 4, 4);
        rest(28 / 8, 1, 2, 4, 4, 7);
        rest(5, 9, 8, 7, 6, 5, 4, 3, 2, 1);
        rest(4, 9, 8, 7, 6, 5, 4, 3, 2, 0);
        rest((1 + 999 + 2 * (2 + 4 + 4 + 7 + 3 * 999)) / 16, 1, 2, 4, 4, 7, 999, 999, 999, 999);
    }

    private static void trouble(int want, int drift, int... readings) {
        ShaftPlumb x = Mines.wire(readings);
        x.set(0, drift);
        Check.due(x.wire(0, 4), want);
    }

    private static void troubleOfFewTurns() {
        Check.sentence("WIRES: trouble 1 with fewer than 3 turning points");
        trouble(1, 20);
        trouble(1, 20, 500);
        trouble(1, 20, 500, 500);
        trouble(1, 0, 0, 999);
        trouble(0, 20, 500, 500, 500);
    }

    private static void troubleOfDrift() {
        Check.sentence("WIRES: trouble 2 if they differ by more than the drift");
        trouble(0, 20, 500, 100, 480);
        trouble(2, 20, 500, 100, 479);
        trouble(0, 20, 480, 100, 500);
        trouble(2, 20, 479, 100, 500);
        Check.sentence("WIRES: trouble 2 goes with the drift, and comes back with undo");
        ShaftPlumb x = Mines.wire(500, 100, 480);
        x.set(0, 19);
        Check.due(x.wire(0, 4), 2);
        x.undo();
        Check.due(x.wire(0, 4), 0);
    }

    private static void troubleOfLeastAndGreatestDrift() {
        Check.sentence("WIRES: a drift of 0, and one of 999");
        trouble(0, 0, 5, 9, 5);
        trouble(2, 0, 5, 9, 6);
        trouble(0, 999, 0, 0, 999);
        trouble(2, 998, 0, 0, 999);
        trouble(2, 998, 999, 0, 0);
    }

    private static void troubleOfOneBetween() {
        Check.sentence("WIRES: two turning points with just one between them");
        trouble(0, 0, 0, 999, 0);
        trouble(0, 0, 0, 999, 0, 999);
        trouble(2, 20, 0, 0, 21);
        trouble(2, 20, 21, 0, 0, 0, 0, 0, 0, 0, 0);
        trouble(2, 20, 0, 0, 0, 0, 0, 0, 0, 0, 21);
        trouble(2, 20, 0, 0, 0, 0, 0, 0, 0, 21);
        trouble(0, 20, 0, 20, 20, 40, 40, 60, 60, 80, 80);
    }

    private static void difference(int want, int... readings) {
        Check.due(Mines.wire(readings).wire(0, 5), want);
    }

    private static void greatestDifference() {
        Check.sentence("Promise 7: 5 the greatest difference, 0 with fewer than 3 turning points");
        difference(0);
        difference(0, 999);
        difference(0, 0, 999);
        difference(0, 0, 999, 0);
        difference(999, 0, 0, 999);
        difference(999, 999, 0, 0);
        difference(21, 500, 100, 480, 121, 481);
        difference(30, 0, 0, 10, 20, 30, 50, 60, 70, 85);
        difference(40, 0, 0, 0, 0, 0, 0, 30, 0, 70);
    }

    private static void wireLooks() {
        Check.sentence("Promise 7: not undoable, wire only looks");
        for (int i = 0; i <= 5; i++) {
            int what = i;
            Check.looks(Mines::closed, x -> x.wire(1, what));
        }
    }
}
