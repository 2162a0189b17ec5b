/** Promises 8 to 10: join, measure, joinOf. */
public final class JoinsTest {
    private static final int NONE = ShaftPlumb.NONE;

    public static void main(String[] args) {
        joinTakesWires();
        joinTakesDifferentWires();
        joinTakesBearings();
        joinTakesDistances();
        joinTakesSmallAngles();
        joinTakesFour();
        joinOrder();
        joinTakesWiresInTrouble();
        joinIsUndoable();
        measureTakesJoins();
        measureTakesSmallAngles();
        measureOrder();
        measureTellsPreviousOne();
        measureIsUndoable();
        joinOfTakesJoins();
        joinOfTakesEightNumbers();
        joinOfOrder();
        joinOfTellsNumbers();
        troubleOfWires();
        causeOfTrouble();
        troubleOfDistance();
        troubleOfBoth();
        startInTrouble();
        startIsRounded();
        startOfRoundedRests();
        startIsNormed();
        startOfGreatestTurns();
        joinOfLooks();
        Check.end("JoinsTest");
    }

    private static ShaftPlumb fourJoins() {
        ShaftPlumb x = Mines.joins();
        x.join(0, 1, 5, 100, 100, 0);
        x.join(1, 0, 5, 100, 100, 0);
        return x;
    }

    private static ShaftPlumb noTurns() {
        ShaftPlumb x = new ShaftPlumb();
        x.hang(0, 0);
        x.hang(0, 0);
        return x;
    }

    /** One join, whose wires have these rests. */
    private static ShaftPlumb joined(int bearing, int c, int a, int g, int nearRest, int farRest) {
        ShaftPlumb x = noTurns();
        Mines.read(x, 0, nearRest, nearRest, nearRest);
        Mines.read(x, 1, farRest, farRest, farRest);
        x.join(0, 1, bearing, c, a, g);
        return x;
    }

    private static ShaftPlumb joined() {
        return joined(1000, 1000, 2000, 7, 100, 100);
    }

    // ---- Promise 8

    private static void joinTakesWires() {
        Check.sentence("Promise 8: there is no such wire as near");
        Check.index(ShaftPlumb::new, x -> x.join(0, 1, 0, 100, 100, 0));
        Check.index(() -> Mines.wire(), x -> x.join(1, 0, 0, 100, 100, 0));
        Check.range(Check.INDEX, Mines::sixWires, 0, 5, (x, near) -> x.join(near, 3, 0, 100, 100, 0));
        Check.sentence("Promise 8: there is no such wire as far");
        Check.index(() -> Mines.wire(), x -> x.join(0, 1, 0, 100, 100, 0));
        Check.range(Check.INDEX, Mines::sixWires, 0, 5, (x, far) -> x.join(3, far, 0, 100, 100, 0));
    }

    private static void joinTakesDifferentWires() {
        Check.sentence("Promise 8: near equals far");
        Check.argument(Mines::wires, x -> x.join(0, 0, 0, 100, 100, 0));
        Check.argument(Mines::sixWires, x -> x.join(5, 5, 0, 100, 100, 0));
    }

    private static void joinTakesBearings() {
        Check.sentence("Promise 8: a bearing is 0 to 1295999");
        Check.range(Check.ARGUMENT, Mines::wires, 0, 1295999, (x, bearing) -> x.join(0, 1, bearing, 100, 100, 0));
    }

    private static void joinTakesDistances() {
        Check.sentence("Promise 8: the distance c is 100 to 20000");
        Check.range(Check.ARGUMENT, Mines::wires, 100, 20000, (x, c) -> x.join(0, 1, 0, c, 100, 0));
        Check.sentence("Promise 8: the distance a is 100 to 50000");
        Check.range(Check.ARGUMENT, Mines::wires, 100, 50000, (x, a) -> x.join(0, 1, 0, 100, a, 0));
    }

    private static void joinTakesSmallAngles() {
        Check.sentence("Promise 8: the small angle is -3600 to 3600");
        Check.range(Check.ARGUMENT, Mines::wires, -3600, 3600, (x, g) -> x.join(0, 1, 0, 100, 100, g));
    }

    private static void joinTakesFour() {
        Check.sentence("Promise 8: at most 4 joins, numbered from 0");
        ShaftPlumb x = Mines.wires();
        for (int i = 0; i < 4; i++) {
            Check.due(x.join(0, 1, i, 100, 100, 0), i);
        }
        Check.due(x.joinOf(0, 2), 0);
        Check.due(x.joinOf(3, 2), 3);
        Check.state(JoinsTest::fourJoins, mine -> mine.join(0, 1, 5, 100, 100, 0));
        Check.state(Mines::full, mine -> mine.join(5, 0, 5, 100, 100, 0));
    }

    private static void joinOrder() {
        Check.sentence("Promise 8: no such wire, then out of range, then 4 joins");
        Check.index(Mines::wires, x -> x.join(2, 2, 0, 100, 100, 0));
        Check.index(Mines::wires, x -> x.join(-1, 0, -1, 99, 99, 3601));
        Check.index(JoinsTest::fourJoins, x -> x.join(0, 2, -1, 100, 100, 0));
        Check.index(JoinsTest::fourJoins, x -> x.join(2, 0, 0, 100, 100, 0));
        Check.argument(JoinsTest::fourJoins, x -> x.join(1, 1, 0, 100, 100, 0));
        Check.argument(JoinsTest::fourJoins, x -> x.join(0, 1, 1296000, 100, 100, 0));
        Check.argument(JoinsTest::fourJoins, x -> x.join(0, 1, 0, 20001, 100, 0));
        Check.argument(JoinsTest::fourJoins, x -> x.join(0, 1, 0, 100, 50001, 0));
        Check.argument(JoinsTest::fourJoins, x -> x.join(0, 1, 0, 100, 100, -3601));
    }

    private static void joinTakesWiresInTrouble() {
        Check.sentence("Promise 8: wires without turning points, and a greater than 3 * c, are no reason to refuse");
        ShaftPlumb x = noTurns();
        Check.due(x.join(0, 1, 0, 100, 50000, 0), 0);
        Check.due(x.joinOf(0, 6), 3);
        Check.due(x.joinOf(0, 7), NONE);
    }

    private static void joinIsUndoable() {
        Check.sentence("Promise 8: undoable");
        Check.undoable(JoinsTest::noTurns, x -> x.join(0, 1, 0, 100, 100, 0));
        Check.undoable(Mines::closed, x -> x.join(0, 1, 0, 100, 100, 0));
        ShaftPlumb x = fourJoins();
        x.undo();
        Check.due(x.info(4), 3);
        Check.due(x.join(1, 0, 77, 200, 300, 4), 3);
        Check.due(x.joinOf(3, 2), 77);
    }

    // ---- Promise 9

    private static void measureTakesJoins() {
        Check.sentence("Promise 9: there is no such join");
        Check.index(Mines::wires, x -> x.measure(0, 0));
        Check.range(Check.INDEX, Mines::joins, 0, 1, (x, join) -> x.measure(join, 0));
        Check.range(Check.INDEX, Mines::full, 0, 3, (x, join) -> x.measure(join, 0));
    }

    private static void measureTakesSmallAngles() {
        Check.sentence("Promise 9: the small angle is -3600 to 3600");
        Check.range(Check.ARGUMENT, Mines::joins, -3600, 3600, (x, g) -> x.measure(1, g));
    }

    private static void measureOrder() {
        Check.sentence("Promise 9: no such join comes before a small angle out of range");
        Check.index(Mines::wires, x -> x.measure(0, 3601));
        Check.index(Mines::joins, x -> x.measure(2, -3601));
    }

    private static void measureTellsPreviousOne() {
        Check.sentence("Promise 9: returns the previous small angle");
        ShaftPlumb x = joined();
        Check.due(x.measure(0, -3600), 7);
        Check.due(x.measure(0, 3600), -3600);
        Check.due(x.joinOf(0, 5), 3600);
        Check.due(x.joinOf(0, 7), 8200);
        x.join(1, 0, 0, 100, 100, 9);
        Check.due(x.measure(1, 0), 9);
        Check.due(x.joinOf(0, 5), 3600);
    }

    private static void measureIsUndoable() {
        Check.sentence("Promise 9: undoable, also if the small angle is the same");
        Check.undoable(JoinsTest::joined, x -> x.measure(0, -3600));
        Check.undoable(JoinsTest::joined, x -> x.measure(0, 7));
        Check.undoable(Mines::closed, x -> x.measure(1, 5));
    }

    // ---- Promise 10

    private static void joinOfTakesJoins() {
        Check.sentence("Promise 10: there is no such join");
        Check.index(Mines::wires, x -> x.joinOf(0, 0));
        Check.range(Check.INDEX, Mines::joins, 0, 1, (x, join) -> x.joinOf(join, 7));
        Check.range(Check.INDEX, Mines::full, 0, 3, (x, join) -> x.joinOf(join, 0));
    }

    private static void joinOfTakesEightNumbers() {
        Check.sentence("Promise 10: what is 0 to 7, also of a join in trouble");
        Check.range(Check.ARGUMENT, Mines::joins, 0, 7, (x, what) -> x.joinOf(1, what));
        Check.range(Check.ARGUMENT, () -> joined(0, 100, 301, 0, 1, 1), 0, 7, (x, what) -> x.joinOf(0, what));
    }

    private static void joinOfOrder() {
        Check.sentence("Promise 10: no such join comes before a wrong what");
        Check.index(Mines::wires, x -> x.joinOf(0, 8));
        Check.index(Mines::joins, x -> x.joinOf(-1, -1));
    }

    private static void joinOfTellsNumbers() {
        Check.sentence("Promise 10: 0 to 5 what was told to join(), 6 its trouble, 7 its start");
        ShaftPlumb x = Mines.wires();
        x.join(1, 0, 4000, 500, 250, -9);
        int[] want = {1, 0, 4000, 500, 250, -9, 0, 3996};
        for (int what = 0; what < want.length; what++) {
            Check.due(x.joinOf(0, what), want[what]);
        }
        Check.sentence("Promise 10: the fourth join is told like the others");
        int[] fourth = {3, 5, 900000, 2000, 3000, 300, 0, 900000 + 450 + 20};
        for (int what = 0; what < fourth.length; what++) {
            Check.due(Mines.full().joinOf(3, what), fourth[what]);
        }
    }

    private static void troubleOfWires() {
        Check.sentence("JOINS: trouble 3 if one of its wires is in trouble");
        ShaftPlumb x = Mines.wires();
        x.join(0, 1, 0, 100, 100, 0);
        Check.due(x.joinOf(0, 6), 0);
        x.still(0);
        Check.due(x.joinOf(0, 6), 3);
        x.undo();
        Check.due(x.joinOf(0, 6), 0);
        x.still(1);
        Check.due(x.joinOf(0, 6), 3);
        x.still(0);
        Check.due(x.joinOf(0, 6), 3);
        Mines.read(x, 0, 100, 100, 100);
        Mines.read(x, 1, 100, 100, 121);
        Check.due(x.joinOf(0, 6), 3);
        x.set(0, 21);
        Check.due(x.joinOf(0, 6), 0);
    }

    private static void cause(int want, int nearTurns, int farTurns) {
        ShaftPlumb x = noTurns();
        for (int i = 0; i < nearTurns; i++) {
            x.swing(0, 50 * i);
        }
        for (int i = 0; i < farTurns; i++) {
            x.swing(1, 50 * i);
        }
        x.join(0, 1, 0, 100, 100, 0);
        x.begin(0);
        x.addLeg(0, 0, 1);
        Check.due(x.trouble(0, 1), 3);
        Check.due(x.trouble(0, 2), want);
    }

    private static void causeOfTrouble() {
        Check.sentence("JOINS: the cause is the trouble of the near wire, or, if that is in none, of the far one");
        cause(1, 2, 3);
        cause(2, 3, 2);
        cause(1, 0, 0);
        cause(2, 9, 9);
        ShaftPlumb x = Mines.legs(1);
        x.still(1);
        Check.due(x.trouble(0, 2), 1);
        Mines.read(x, 1, 0, 0, 21);
        Check.due(x.trouble(0, 2), 2);
    }

    private static void troubleOfDistance() {
        Check.sentence("JOINS: trouble 4 if a is greater than 3 * c");
        Check.due(joined(0, 100, 300, 0, 1, 1).joinOf(0, 6), 0);
        Check.due(joined(0, 100, 301, 0, 1, 1).joinOf(0, 6), 4);
        Check.due(joined(0, 16666, 49998, 0, 1, 1).joinOf(0, 6), 0);
        Check.due(joined(0, 16666, 49999, 0, 1, 1).joinOf(0, 6), 4);
        Check.due(joined(0, 16667, 50000, 0, 1, 1).joinOf(0, 6), 0);
        Check.due(joined(0, 100, 50000, 0, 1, 1).joinOf(0, 6), 4);
        Check.due(joined(0, 20000, 100, 0, 1, 1).joinOf(0, 6), 0);
    }

    private static void troubleOfBoth() {
        Check.sentence("WIRES: of several troubles, 3 before 4");
        ShaftPlumb x = joined(0, 100, 301, 0, 1, 1);
        x.still(1);
        Check.due(x.joinOf(0, 6), 3);
        x.undo();
        Check.due(x.joinOf(0, 6), 4);
    }

    private static void startInTrouble() {
        Check.sentence("Promise 10: 7 its start, NONE if it is in trouble");
        Check.due(joined(5, 100, 300, 0, 1, 1).joinOf(0, 7), 5);
        Check.due(joined(5, 100, 301, 0, 1, 1).joinOf(0, 7), NONE);
        ShaftPlumb x = joined(5, 100, 300, 0, 1, 1);
        x.still(0);
        Check.due(x.joinOf(0, 7), NONE);
        x.undo();
        Check.due(x.joinOf(0, 7), 5);
    }

    private static void startIsRounded() {
        Check.sentence("JOINS: the two quotients are rounded each by itself, toward 0");
        Check.due(joined(500, 1000, 1500, 1, 100, 100).joinOf(0, 7), 501);
        Check.due(joined(500, 1000, 1500, -1, 100, 100).joinOf(0, 7), 499);
        Check.due(joined(500, 1000, 1500, 0, 100, 101).joinOf(0, 7), 520);
        Check.due(joined(500, 1000, 1500, 0, 101, 100).joinOf(0, 7), 480);
        Check.due(joined(500, 1000, 1500, 1, 100, 101).joinOf(0, 7), 521);
        Check.due(joined(500, 1000, 1500, -1, 101, 100).joinOf(0, 7), 479);
        Check.due(joined(500, 1000, 1500, -1, 100, 101).joinOf(0, 7), 519);
        Check.due(joined(500, 1000, 999, 1, 100, 100).joinOf(0, 7), 500);
        Check.due(joined(500, 1000, 999, -1, 100, 100).joinOf(0, 7), 500);
        Check.due(joined(500, 20000, 100, 0, 100, 101).joinOf(0, 7), 501);
        Check.due(joined(500, 20000, 100, 0, 101, 100).joinOf(0, 7), 499);
    }

    private static void startOfRoundedRests() {
        Check.sentence("JOINS: the rests are rounded before they are subtracted");
        ShaftPlumb x = noTurns();
        Mines.read(x, 0, 0, 1, 1);
        Mines.read(x, 1, 1, 1, 1);
        x.join(0, 1, 0, 100, 100, 0);
        x.join(1, 0, 0, 100, 100, 0);
        Check.due(x.joinOf(0, 7), 206);
        Check.due(x.joinOf(1, 7), 1296000 - 206);
    }

    private static void startIsNormed() {
        Check.sentence("ANGLES: a start is normed to 0 to 1295999");
        Check.due(joined(1295999, 1000, 1000, 0, 1, 1).joinOf(0, 7), 1295999);
        Check.due(joined(1295998, 1000, 1000, 1, 1, 1).joinOf(0, 7), 1295999);
        Check.due(joined(1295999, 1000, 1000, 1, 1, 1).joinOf(0, 7), 0);
        Check.due(joined(1295999, 1000, 1000, 2, 1, 1).joinOf(0, 7), 1);
        Check.due(joined(0, 1000, 1000, 0, 1, 1).joinOf(0, 7), 0);
        Check.due(joined(1, 1000, 1000, -1, 1, 1).joinOf(0, 7), 0);
        Check.due(joined(0, 1000, 1000, -1, 1, 1).joinOf(0, 7), 1295999);
        Check.due(joined(19, 1000, 1000, 0, 2, 1).joinOf(0, 7), 1295999);
        Check.due(joined(1295980, 1000, 1000, 0, 1, 2).joinOf(0, 7), 0);
    }

    private static void startOfGreatestTurns() {
        Check.sentence("JOINS: the greatest turns of a start, both ways");
        Check.due(joined(1295999, 100, 300, 3600, 0, 999).joinOf(0, 7), 1295999 + 10800 + 206053 - 1296000);
        Check.due(joined(0, 100, 300, -3600, 999, 0).joinOf(0, 7), 1296000 - 10800 - 206053);
        Check.due(joined(1295999, 20000, 50000, 3600, 1, 1).joinOf(0, 7), 1295999 + 9000 - 1296000);
        Check.due(joined(0, 16667, 50000, -3600, 1, 1).joinOf(0, 7), 1296000 - 10799);
    }

    private static void joinOfLooks() {
        Check.sentence("Promise 10: not undoable, joinOf only looks");
        for (int i = 0; i <= 7; i++) {
            int what = i;
            Check.looks(Mines::closed, x -> x.joinOf(1, what));
        }
    }
}
