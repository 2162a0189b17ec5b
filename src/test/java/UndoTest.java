import java.util.function.Supplier;

/** Promises 29 and 30: undo, checksum; and what the document says of copies and of exceptions. */
public final class UndoTest {
    private static final int NONE = ShaftPlumb.NONE;

    public static void main(String[] args) {
        undoOfNothing();
        undoTellsHowManyAreLeft();
        undoOfOldest();
        undoAndGoOn();
        undoIsNoChange();
        undoRestoresEverything();
        undoLeavesText();
        undoOfRefused();
        refusedChangesOfWires();
        refusedChangesOfTraverses();
        refusedLooks();
        refusedTexts();
        undoOfManyChanges();
        checksumOfNewMine();
        checksumOfEverything();
        checksumOfTroubles();
        checksumOfTextAndCopies();
        checksumLooks();
        noneIsTwoThousandMillion();
        Check.end("UndoTest");
    }

    // ---- Promise 29

    private static ShaftPlumb usedUp() {
        ShaftPlumb x = new ShaftPlumb();
        x.hang(1, 2);
        x.undo();
        return x;
    }

    /** Six changes, of which four can be undone. */
    private static ShaftPlumb sixChanges() {
        ShaftPlumb x = new ShaftPlumb();
        for (int drift = 1; drift <= 6; drift++) {
            x.set(0, drift);
        }
        return x;
    }

    private static ShaftPlumb allUndone() {
        ShaftPlumb x = sixChanges();
        for (int i = 0; i < 4; i++) {
            x.undo();
        }
        return x;
    }

    private static void undoOfNothing() {
        Check.sentence("Promise 29: there is no copy");
        Check.state(ShaftPlumb::new, x -> x.undo());
        Check.state(UndoTest::usedUp, x -> x.undo());
        Check.state(UndoTest::allUndone, x -> x.undo());
        Check.state(() -> Mines.typed("k0;"), x -> x.undo());
    }

    private static void undoTellsHowManyAreLeft() {
        Check.sentence("Promise 29: returns how many copies are left");
        for (int changes = 1; changes <= 6; changes++) {
            ShaftPlumb x = new ShaftPlumb();
            for (int i = 0; i < changes; i++) {
                x.set(0, i);
            }
            Check.due(x.undo(), Math.min(changes, 4) - 1);
        }
    }

    private static void undoOfOldest() {
        Check.sentence("UNDO: at most 4 copies; when one more is made, the oldest is dropped");
        ShaftPlumb x = sixChanges();
        for (int left = 3; left >= 0; left--) {
            Check.due(x.undo(), left);
            Check.due(x.info(0), left + 2);
        }
        Check.due(allUndone().info(0), 2);
        ShaftPlumb four = new ShaftPlumb();
        for (int drift = 1; drift <= 4; drift++) {
            four.set(0, drift);
        }
        for (int i = 0; i < 4; i++) {
            four.undo();
        }
        Check.due(four.info(0), 20);
    }

    private static void undoAndGoOn() {
        Check.sentence("Promise 29: restores the latest copy and removes it, and a change behind it keeps a new one");
        ShaftPlumb x = allUndone();
        x.set(0, 7);
        x.set(0, 8);
        Check.due(x.undo(), 1);
        Check.due(x.info(0), 7);
        x.set(0, 9);
        Check.due(x.undo(), 1);
        Check.due(x.info(0), 7);
        Check.due(x.undo(), 0);
        Check.due(x.info(0), 2);
        ShaftPlumb y = sixChanges();
        y.undo();
        y.undo();
        y.set(0, 10);
        y.set(0, 11);
        y.set(0, 12);
        int[] drifts = {11, 10, 4, 3};
        for (int i = 0; i < 4; i++) {
            Check.due(y.undo(), 3 - i);
            Check.due(y.info(0), drifts[i]);
        }
    }

    private static void undoIsNoChange() {
        Check.sentence("Promise 29: undo itself is not undoable");
        ShaftPlumb x = new ShaftPlumb();
        x.set(0, 1);
        x.set(0, 2);
        x.undo();
        x.undo();
        Check.due(x.info(0), 20);
        Check.due(Check.copiesOf(x), 0);
    }

    private static void undoRestoresEverything() {
        Check.sentence("UNDO: a copy of everything but the text");
        Check.undoable(Mines::full, x -> x.set(0, 0));
        Check.undoable(Mines::full, x -> x.still(5));
        Check.undoable(Mines::full, x -> x.measure(3, -3600));
        Check.undoable(Mines::full, x -> x.dropLeg(3));
        Check.undoable(Mines::full, x -> x.close(2, 0, 1295999));
        Check.undoable(UndoTest::scripted, x -> x.run());
    }

    private static ShaftPlumb scripted() {
        ShaftPlumb x = Mines.closed(20);
        Mines.type(x, "a0;t0,7;k0;l0,1,2;t1,9;");
        return x;
    }

    private static void undoLeavesText() {
        Check.sentence("UNDO: the text stays as it is");
        ShaftPlumb x = Mines.typed("k0;");
        x.set(1, 5);
        Mines.type(x, "a");
        x.undo();
        Check.due(x.fault(), 4);
        Check.due(x.clearText(), 4);
        ShaftPlumb empty = Mines.typed("k0;");
        empty.set(1, 5);
        empty.clearText();
        empty.undo();
        Check.due(empty.clearText(), 0);
    }

    private static void undoOfRefused() {
        Check.sentence("EXCEPTIONS: a call that throws keeps no copy");
        ShaftPlumb x = Mines.closed(31);
        x.set(0, 5);
        Check.outcome(() -> x.set(0, 1000));
        Check.outcome(() -> x.hang(1000001, 0));
        Check.outcome(() -> x.swing(0, 1000));
        Check.outcome(() -> x.still(2));
        Check.outcome(() -> x.join(0, 0, 0, 100, 100, 0));
        Check.outcome(() -> x.measure(0, 3601));
        Check.outcome(() -> x.begin(2));
        Check.outcome(() -> x.addLeg(0, 0, 1));
        Check.outcome(() -> x.dropLeg(1));
        Check.outcome(() -> x.close(0, 0, 0));
        Check.outcome(() -> x.adjust(0));
        x.type('k');
        Check.outcome(() -> x.run());
        Check.due(x.undo(), 3);
        Check.due(x.info(0), 20);
    }

    /** A full mine with a traverse in trouble 8, four copies, and a text that has a fault. */
    private static ShaftPlumb busy() {
        ShaftPlumb x = Mines.full();
        x.close(0, 1, 5);
        Mines.type(x, "k0;k");
        return x;
    }

    private static void refusedChangesOfWires() {
        Check.sentence("EXCEPTIONS: a call that throws changes nothing: set, hang, swing, still, join, measure");
        Check.argument(UndoTest::busy, x -> x.set(0, -1));
        Check.argument(UndoTest::busy, x -> x.hang(1000001, 0));
        Check.state(UndoTest::busy, x -> x.hang(0, 0));
        Check.index(UndoTest::busy, x -> x.swing(6, 0));
        Check.argument(UndoTest::busy, x -> x.swing(0, 1000));
        Check.state(UndoTest::busy, x -> x.swing(0, 0));
        Check.index(UndoTest::busy, x -> x.still(6));
        Check.index(UndoTest::busy, x -> x.join(0, 6, 0, 100, 100, 0));
        Check.argument(UndoTest::busy, x -> x.join(0, 0, 0, 100, 100, 0));
        Check.state(UndoTest::busy, x -> x.join(0, 1, 0, 100, 100, 0));
        Check.index(UndoTest::busy, x -> x.measure(4, 0));
        Check.argument(UndoTest::busy, x -> x.measure(0, 3601));
    }

    private static void refusedChangesOfTraverses() {
        Check.sentence("EXCEPTIONS: a call that throws changes nothing: begin, addLeg, dropLeg, close, adjust");
        Check.index(UndoTest::busy, x -> x.begin(4));
        Check.state(UndoTest::busy, x -> x.begin(0));
        Check.index(UndoTest::busy, x -> x.addLeg(4, 0, 1));
        Check.argument(UndoTest::busy, x -> x.addLeg(1, 0, 0));
        Check.state(UndoTest::busy, x -> x.addLeg(0, 0, 1));
        Check.state(UndoTest::busy, x -> x.addLeg(1, 0, 1));
        Check.index(UndoTest::busy, x -> x.dropLeg(4));
        Check.state(() -> Mines.legs(0), x -> x.dropLeg(0));
        Check.index(UndoTest::busy, x -> x.close(0, 4, 0));
        Check.argument(UndoTest::busy, x -> x.close(0, 0, 0));
        Check.state(() -> Mines.legs(0), x -> x.close(0, 1, 0));
        Check.index(UndoTest::busy, x -> x.adjust(4));
        Check.state(UndoTest::busy, x -> x.adjust(0));
        Check.state(UndoTest::busy, x -> x.adjust(1));
    }

    private static void refusedLooks() {
        Check.sentence("EXCEPTIONS: a call that throws changes nothing: those that only look");
        Check.argument(UndoTest::busy, x -> x.info(8));
        Check.index(UndoTest::busy, x -> x.wire(6, 0));
        Check.argument(UndoTest::busy, x -> x.wire(0, 6));
        Check.index(UndoTest::busy, x -> x.joinOf(4, 0));
        Check.argument(UndoTest::busy, x -> x.joinOf(0, 8));
        Check.index(UndoTest::busy, x -> x.traverse(4, 0));
        Check.argument(UndoTest::busy, x -> x.traverse(0, 10));
        Check.index(UndoTest::busy, x -> x.leg(0, 12, 0));
        Check.argument(UndoTest::busy, x -> x.leg(0, 0, 5));
        Check.index(UndoTest::busy, x -> x.trouble(4, 0));
        Check.index(UndoTest::busy, x -> x.apart(0, 4));
        Check.index(UndoTest::busy, x -> x.meets(4, 0) ? 1 : 0);
        Check.argument(UndoTest::busy, x -> x.sine(10000001));
        Check.index(UndoTest::busy, x -> x.suspect(4));
        Check.index(UndoTest::busy, x -> x.angleFor(0, 4, 0));
        Check.argument(UndoTest::busy, x -> x.angleFor(0, 0, 3601));
        Check.index(UndoTest::busy, x -> x.reachBy(0, 4, 0, 1));
        Check.argument(UndoTest::busy, x -> x.reachBy(0, 1, 0, 2001));
    }

    private static void refusedTexts() {
        Check.sentence("EXCEPTIONS: a call that throws changes nothing: type, run, undo");
        Check.argument(UndoTest::busy, x -> x.type(127));
        Check.state(() -> Mines.typed("k".repeat(90)), x -> x.type('k'));
        Check.argument(UndoTest::busy, x -> x.run());
        Check.state(() -> Mines.typed("k0;k"), x -> x.undo());
    }

    private static void undoOfManyChanges() {
        Check.sentence("UNDO: 400 changes, of which the latest 4 can be undone");
        ShaftPlumb x = new ShaftPlumb();
        for (int reach = 1; reach <= 400; reach++) {
            x.set(2, reach);
        }
        for (int left = 3; left >= 0; left--) {
            Check.due(x.undo(), left);
            Check.due(x.info(2), 396 + left);
        }
        Check.due(Check.copiesOf(x), 0);
    }

    // ---- Promise 30

    private static void checksumOfNewMine() {
        Check.sentence("Promise 30: of a new object");
        long h = 12946;
        for (int v : new int[] {20, 30, 500, 0, 0, 0, 0, 0, 0, 0}) {
            h = 31 * h + v;
        }
        Check.due(new ShaftPlumb().checksum(), h);
        summed(ShaftPlumb::new, 0);
    }

    private static ShaftPlumb fullAndClosed() {
        ShaftPlumb x = Mines.full();
        for (int i = 0; i < 4; i++) {
            x.close(i, 3 - i, 300000 * i);
        }
        return x;
    }

    private static void checksumOfEverything() {
        Check.sentence("Promise 30: of a full mine, of a closed traverse, with long arithmetic that wraps");
        summed(Mines::sixWires, 4);
        summed(() -> Mines.legs(0), 4);
        summed(() -> Mines.closed(20), 4);
        summed(Mines::full, 4);
        summed(UndoTest::fullAndClosed, 4);
    }

    private static ShaftPlumb inTroubleSix() {
        ShaftPlumb x = Mines.closed(31);
        x.still(0);
        return x;
    }

    private static ShaftPlumb inTroubleSeven() {
        ShaftPlumb x = Mines.headings();
        x.join(1, 0, 0, 100, 301, 0);
        x.close(0, 2, 0);
        return x;
    }

    private static void checksumOfTroubles() {
        Check.sentence("Promise 30: with suspect(), and trouble() for the levels 0 to 2");
        Check.due(Mines.closed(31).trouble(0, 0), 8);
        summed(() -> Mines.closed(31), 4);
        Check.due(inTroubleSix().trouble(0, 2), 1);
        summed(UndoTest::inTroubleSix, 4);
        Check.due(inTroubleSeven().trouble(0, 1), 4);
        summed(UndoTest::inTroubleSeven, 4);
    }

    private static void checksumOfTextAndCopies() {
        Check.sentence("Promise 30: the length of the text; the number of copies");
        ShaftPlumb x = new ShaftPlumb();
        long one = x.checksum();
        for (int copies = 1; copies <= 6; copies++) {
            x.set(0, 20);
            Check.due(x.checksum(), one + Math.min(copies, 4));
        }
        x.undo();
        Check.due(x.checksum(), one + 3);
        for (int length = 1; length <= 90; length++) {
            x.type('k');
            Check.due(x.checksum(), one + 3 + 31 * length);
        }
        x.clearText();
        Check.due(x.checksum(), one + 3);
    }

    private static void checksumLooks() {
        Check.sentence("Promise 30: not undoable, checksum only looks");
        Check.looks(Mines::full, x -> x.checksum());
        Check.looks(Mines::closed, x -> x.checksum());
    }

    private static void noneIsTwoThousandMillion() {
        Check.sentence("The public face: NONE is -2000000000");
        Check.due(NONE, -2000000000);
    }

    /** The checksum of a mine without a text, put together from what its other calls answer. */
    private static void summed(Supplier<ShaftPlumb> made, int copies) {
        ShaftPlumb x = made.get();
        long h = 12946;
        for (int what = 0; what <= 7; what++) {
            h = 31 * h + x.info(what);
        }
        for (int i = 0; i < 6 * x.info(3); i++) {
            h = 31 * h + x.wire(i / 6, i % 6);
        }
        for (int i = 0; i < 8 * x.info(4); i++) {
            h = 31 * h + x.joinOf(i / 8, i % 8);
        }
        for (int traverse = 0; traverse < x.info(5); traverse++) {
            // Another object each time, as just 512 calls of one are promised.
            h = summedTraverse(made.get(), traverse, h);
        }
        Check.due(made.get().checksum(), 31 * (31 * h) + copies);
    }

    private static long summedTraverse(ShaftPlumb x, int traverse, long before) {
        long h = before;
        for (int what = 0; what <= 9; what++) {
            h = 31 * h + x.traverse(traverse, what);
        }
        int legs = x.traverse(traverse, 1);
        for (int i = 0; i < 5 * legs; i++) {
            h = 31 * h + x.leg(traverse, i / 5, i % 5);
        }
        h = 31 * h + x.suspect(traverse);
        for (int level = 0; level <= 2; level++) {
            h = 31 * h + x.trouble(traverse, level);
        }
        return h;
    }
}
