/** Promises 11 to 14: begin, addLeg, dropLeg, close. */
public final class TraversesTest {
    private static final int NONE = ShaftPlumb.NONE;

    public static void main(String[] args) {
        beginTakesJoins();
        beginTakesFour();
        beginOrder();
        beginMakesEmptyTraverse();
        beginTakesJoinInTrouble();
        beginIsUndoable();
        addLegTakesTraverses();
        addLegTakesAngles();
        addLegTakesLengths();
        addLegTakesTwelve();
        addLegToClosed();
        addLegOrder();
        addLegInTrouble();
        addLegIsUndoable();
        twelfthLegComesBack();
        dropLegTakesTraverses();
        dropLegWithoutLegs();
        dropLegTellsHowManyAreLeft();
        dropLegOpens();
        dropLegIsUndoable();
        closeTakesTraverses();
        closeTakesJoins();
        closeTakesOtherJoin();
        closeTakesAngles();
        closeWithoutLegs();
        closeOrder();
        closeExchanges();
        closeTellsTrouble();
        closeIsUndoable();
        Check.end("TraversesTest");
    }

    private static ShaftPlumb fourTraverses() {
        ShaftPlumb x = Mines.joins();
        for (int i = 0; i < 4; i++) {
            x.begin(1);
        }
        return x;
    }

    private static ShaftPlumb noLegs() {
        return Mines.legs(0);
    }

    private static ShaftPlumb oneLeg() {
        return Mines.legs(1);
    }

    private static ShaftPlumb twelveLegs() {
        return Mines.legs(12);
    }

    // ---- Promise 11

    private static void beginTakesJoins() {
        Check.sentence("Promise 11: there is no such join");
        Check.index(Mines::wires, x -> x.begin(0));
        Check.range(Check.INDEX, Mines::joins, 0, 1, (x, join) -> x.begin(join));
    }

    private static void beginTakesFour() {
        Check.sentence("Promise 11: at most 4 traverses, numbered from 0");
        ShaftPlumb x = Mines.joins();
        for (int i = 0; i < 4; i++) {
            Check.due(x.begin(i % 2), i);
        }
        Check.due(x.traverse(2, 0), 0);
        Check.due(x.traverse(3, 0), 1);
        Check.state(TraversesTest::fourTraverses, mine -> mine.begin(0));
        Check.state(Mines::full, mine -> mine.begin(3));
    }

    private static void beginOrder() {
        Check.sentence("Promise 11: no such join comes before 4 traverses");
        Check.index(TraversesTest::fourTraverses, x -> x.begin(2));
        Check.index(TraversesTest::fourTraverses, x -> x.begin(-1));
    }

    private static void beginMakesEmptyTraverse() {
        Check.sentence("Promise 11: without legs, not closed, also in the place of a traverse that was undone");
        ShaftPlumb x = Mines.closed();
        x.undo();
        x.undo();
        x.undo();
        Check.due(x.begin(1), 0);
        int[] want = {1, 0, NONE, NONE, 5, NONE, 0, NONE, NONE, NONE};
        for (int what = 0; what < want.length; what++) {
            Check.due(x.traverse(0, what), want[what]);
        }
    }

    private static void beginTakesJoinInTrouble() {
        Check.sentence("Promise 11: a join in trouble is no reason to refuse");
        ShaftPlumb x = Mines.joins();
        x.still(0);
        Check.due(x.begin(0), 0);
    }

    private static void beginIsUndoable() {
        Check.sentence("Promise 11: undoable");
        Check.undoable(Mines::joins, x -> x.begin(0));
        Check.undoable(Mines::closed, x -> x.begin(1));
        ShaftPlumb x = fourTraverses();
        Check.due(x.undo(), 3);
        Check.due(x.info(5), 3);
        Check.due(x.begin(0), 3);
    }

    // ---- Promise 12

    private static void addLegTakesTraverses() {
        Check.sentence("Promise 12: there is no such traverse");
        Check.index(Mines::joins, x -> x.addLeg(0, 0, 1));
        Check.range(Check.INDEX, Mines::headings, 0, 1, (x, traverse) -> x.addLeg(traverse, 0, 1));
        Check.range(Check.INDEX, TraversesTest::fourTraverses, 0, 3, (x, traverse) -> x.addLeg(traverse, 0, 1));
    }

    private static void addLegTakesAngles() {
        Check.sentence("Promise 12: an angle is 0 to 1295999");
        Check.range(Check.ARGUMENT, TraversesTest::noLegs, 0, 1295999, (x, angle) -> x.addLeg(0, angle, 1));
    }

    private static void addLegTakesLengths() {
        Check.sentence("Promise 12: a length is 1 to 200000");
        Check.range(Check.ARGUMENT, TraversesTest::noLegs, 1, 200000, (x, length) -> x.addLeg(0, 0, length));
    }

    private static void addLegTakesTwelve() {
        Check.sentence("Promise 12: at most 12 legs, numbered from 0");
        ShaftPlumb x = noLegs();
        for (int i = 0; i < 12; i++) {
            Check.due(x.addLeg(0, i, 5 + i), i);
        }
        Check.due(x.leg(0, 0, 1), 5);
        Check.due(x.leg(0, 11, 1), 16);
        Check.state(TraversesTest::twelveLegs, mine -> mine.addLeg(0, 0, 1));
        Check.state(Mines::full, mine -> mine.addLeg(3, 1295999, 200000));
    }

    private static void addLegToClosed() {
        Check.sentence("Promise 12: the traverse is closed");
        Check.state(Mines::closed, x -> x.addLeg(0, 0, 1));
        ShaftPlumb x = Mines.closed();
        Check.due(x.begin(1), 1);
        Check.due(x.addLeg(1, 0, 1), 0);
    }

    private static void addLegOrder() {
        Check.sentence("Promise 12: no such traverse, then out of range, then closed or 12 legs");
        Check.index(Mines::joins, x -> x.addLeg(0, -1, 0));
        Check.index(TraversesTest::noLegs, x -> x.addLeg(1, 1296000, 1));
        Check.index(Mines::closed, x -> x.addLeg(-1, 0, 200001));
        Check.argument(Mines::closed, x -> x.addLeg(0, -1, 1));
        Check.argument(Mines::closed, x -> x.addLeg(0, 0, 0));
        Check.argument(TraversesTest::twelveLegs, x -> x.addLeg(0, 1296000, 1));
        Check.argument(TraversesTest::twelveLegs, x -> x.addLeg(0, 0, 200001));
    }

    private static void addLegInTrouble() {
        Check.sentence("Promise 12: a first join in trouble is no reason to refuse");
        ShaftPlumb x = noLegs();
        x.still(0);
        Check.due(x.addLeg(0, 5, 6), 0);
        Check.due(x.leg(0, 0, 0), 5);
        Check.due(x.leg(0, 0, 1), 6);
    }

    private static void addLegIsUndoable() {
        Check.sentence("Promise 12: undoable");
        Check.undoable(TraversesTest::noLegs, x -> x.addLeg(0, 5, 6));
        Check.undoable(() -> Mines.legs(11), x -> x.addLeg(0, 5, 6));
        ShaftPlumb x = twelveLegs();
        Check.due(x.undo(), 3);
        Check.due(x.traverse(0, 1), 11);
        Check.due(x.addLeg(0, 7, 8), 11);
        Check.due(x.leg(0, 11, 1), 8);
    }

    private static void twelfthLegComesBack() {
        Check.sentence("UNDO: the twelfth leg comes back, though another one has been added since");
        ShaftPlumb x = Mines.legs(11);
        x.addLeg(0, 7, 8);
        x.dropLeg(0);
        x.addLeg(0, 9, 10);
        x.undo();
        x.undo();
        Check.due(x.leg(0, 11, 0), 7);
        Check.due(x.leg(0, 11, 1), 8);
    }

    // ---- Promise 13

    private static void dropLegTakesTraverses() {
        Check.sentence("Promise 13: there is no such traverse");
        Check.index(Mines::joins, x -> x.dropLeg(0));
        Check.range(Check.INDEX, Mines::headings, 0, 1, (x, traverse) -> x.dropLeg(traverse));
        Check.range(Check.INDEX, Mines::full, 0, 3, (x, traverse) -> x.dropLeg(traverse));
    }

    private static void dropLegWithoutLegs() {
        Check.sentence("Promise 13: it has no legs");
        Check.state(TraversesTest::noLegs, x -> x.dropLeg(0));
        ShaftPlumb x = oneLeg();
        Check.due(x.dropLeg(0), 0);
        Check.dueText("dropLeg(0) behind the last one", Check.outcome(() -> x.dropLeg(0)),
            "throws IllegalStateException");
    }

    private static void dropLegTellsHowManyAreLeft() {
        Check.sentence("Promise 13: drops the last leg, returns how many are left");
        ShaftPlumb x = noLegs();
        for (int i = 0; i < 12; i++) {
            x.addLeg(0, i, 10 + i);
        }
        for (int left = 11; left >= 0; left--) {
            Check.due(x.dropLeg(0), left);
            Check.due(x.traverse(0, 1), left);
            if (left > 0) {
                Check.due(x.leg(0, left - 1, 1), 9 + left);
            }
        }
    }

    private static void dropLegOpens() {
        Check.sentence("Promise 13: opens the traverse if it is closed");
        ShaftPlumb x = Mines.closed();
        Check.due(x.dropLeg(0), 0);
        Check.due(x.traverse(0, 2), NONE);
        Check.due(x.traverse(0, 3), NONE);
        Check.due(x.traverse(0, 4), 5);
        Check.due(x.addLeg(0, 3, 30), 0);
        ShaftPlumb full = twelveLegs();
        full.close(0, 1, 5);
        Check.due(full.dropLeg(0), 11);
        Check.due(full.traverse(0, 2), NONE);
        Check.due(full.addLeg(0, 3, 30), 11);
    }

    private static void dropLegIsUndoable() {
        Check.sentence("Promise 13: undoable, the leg and the closing come back");
        Check.undoable(TraversesTest::oneLeg, x -> x.dropLeg(0));
        Check.undoable(Mines::closed, x -> x.dropLeg(0));
        Check.undoable(Mines::full, x -> x.dropLeg(2));
        ShaftPlumb x = Mines.closed();
        x.dropLeg(0);
        x.undo();
        Check.due(x.leg(0, 0, 0), 324000);
        Check.due(x.traverse(0, 2), 1);
        Check.due(x.traverse(0, 3), 648000);
    }

    // ---- Promise 14

    private static void closeTakesTraverses() {
        Check.sentence("Promise 14: there is no such traverse");
        Check.index(Mines::joins, x -> x.close(0, 1, 0));
        Check.range(Check.INDEX, TraversesTest::oneLeg, 0, 0, (x, traverse) -> x.close(traverse, 1, 0));
        Check.range(Check.INDEX, Mines::full, 0, 3, (x, traverse) -> x.close(traverse, 2, 0));
    }

    private static void closeTakesJoins() {
        Check.sentence("Promise 14: there is no such join");
        Check.range(Check.INDEX, TraversesTest::oneLeg, 1, 1, (x, join) -> x.close(0, join == 0 ? -1 : join, 0));
        Check.range(Check.INDEX, Mines::full, 0, 3, (x, join) -> x.close(1, join, 0));
    }

    private static void closeTakesOtherJoin() {
        Check.sentence("Promise 14: join is its first join");
        Check.argument(TraversesTest::oneLeg, x -> x.close(0, 0, 0));
        Check.argument(Mines::full, x -> x.close(3, 3, 0));
        Check.argument(Mines::closed, x -> x.close(0, 0, 648000));
    }

    private static void closeTakesAngles() {
        Check.sentence("Promise 14: a closing angle is 0 to 1295999");
        Check.range(Check.ARGUMENT, TraversesTest::oneLeg, 0, 1295999, (x, angle) -> x.close(0, 1, angle));
        ShaftPlumb x = oneLeg();
        x.close(0, 1, 0);
        Check.due(x.traverse(0, 3), 0);
        x.close(0, 1, 1295999);
        Check.due(x.traverse(0, 3), 1295999);
    }

    private static void closeWithoutLegs() {
        Check.sentence("Promise 14: it has no legs");
        Check.state(TraversesTest::noLegs, x -> x.close(0, 1, 0));
        Check.state(TraversesTest::fourTraverses, x -> x.close(3, 0, 1295999));
        Check.due(Check.outcome(() -> oneLeg().close(0, 1, 648000)).equals("0"), true);
    }

    private static void closeOrder() {
        Check.sentence("Promise 14: no such traverse or join, then its first join or out of range, then no legs");
        Check.index(TraversesTest::noLegs, x -> x.close(1, 0, -1));
        Check.index(TraversesTest::noLegs, x -> x.close(0, 2, -1));
        Check.index(TraversesTest::noLegs, x -> x.close(0, -1, 0));
        Check.index(TraversesTest::noLegs, x -> x.close(-1, 1, 0));
        Check.argument(TraversesTest::noLegs, x -> x.close(0, 0, 0));
        Check.argument(TraversesTest::noLegs, x -> x.close(0, 1, -1));
        Check.argument(TraversesTest::noLegs, x -> x.close(0, 1, 1296000));
    }

    private static void closeExchanges() {
        Check.sentence("Promise 14: if it is closed already, that is exchanged");
        ShaftPlumb x = Mines.closed(30);
        x.join(0, 1, 324000, 100, 100, 0);
        Check.due(x.close(0, 2, 648001), 0);
        Check.due(x.traverse(0, 2), 2);
        Check.due(x.traverse(0, 3), 648001);
        Check.due(x.traverse(0, 5), 1);
        x.close(0, 1, 7);
        Check.due(x.traverse(0, 2), 1);
        Check.due(x.traverse(0, 3), 7);
        x.undo();
        Check.due(x.traverse(0, 2), 2);
        Check.due(x.traverse(0, 3), 648001);
    }

    private static void closeTellsTrouble() {
        Check.sentence("Promise 14: returns its trouble then, 0 if it is in none");
        Check.due(oneLeg().close(0, 1, 648000), 0);
        Check.due(oneLeg().close(0, 1, 648030), 0);
        Check.due(oneLeg().close(0, 1, 648031), 8);
        ShaftPlumb x = oneLeg();
        x.still(1);
        Check.due(x.close(0, 1, 648000), 6);
        ShaftPlumb y = oneLeg();
        y.hang(0, 0);
        y.join(2, 0, 0, 100, 100, 0);
        Check.due(y.close(0, 2, 648000), 7);
    }

    private static void closeIsUndoable() {
        Check.sentence("Promise 14: undoable, also if nothing changes");
        Check.undoable(TraversesTest::oneLeg, x -> x.close(0, 1, 0));
        Check.undoable(Mines::closed, x -> x.close(0, 1, 5));
        Check.undoable(Mines::closed, x -> x.close(0, 1, 648000));
        ShaftPlumb x = oneLeg();
        x.close(0, 1, 0);
        x.undo();
        Check.due(x.traverse(0, 2), NONE);
        Check.due(x.addLeg(0, 0, 1), 1);
    }
}
