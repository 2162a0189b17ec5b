/** Promises 16 to 18: traverse, leg, trouble, with the bearings, gaps, misses and troubles that they tell. */
public final class TellingTest {
    private static final int NONE = ShaftPlumb.NONE;
    // The last bearing of the traverse 3 of a full mine is 960506, the start of the join 1 is 300170.
    private static final int FOURTH_CLOSING = 300170 + 50 - 960506 - 648000 + 2 * 1296000;

    public static void main(String[] args) {
        traverseTakesTraverses();
        traverseTakesTenNumbers();
        traverseOrder();
        traverseWithoutLegs();
        traverseNotClosed();
        traverseClosed();
        traverseInTrouble();
        traverseTellsOfFourth();
        sumOfLengths();
        gapOfLegs();
        gapIsCentred();
        toleranceOfEachNumberOfLegs();
        toleranceOfLeastAndGreatest();
        miss();
        missOfGreatNumbers();
        traverseLooks();
        legTakesTraverses();
        legTakesLegs();
        legTakesFiveNumbers();
        legTellsOfLast();
        legOrder();
        legInTrouble();
        bearingOfFirstLeg();
        bearingOfLaterLegs();
        coordinatesAreRounded();
        coordinatesOfQuarters();
        legLooks();
        troubleTakesTraverses();
        troubleOfNone();
        troubleFive();
        troubleSix();
        troubleSeven();
        troubleEight();
        troubleOfSeveral();
        troubleLooks();
        Check.end("TellingTest");
    }

    private static void all(ShaftPlumb x, int traverse, int... want) {
        for (int what = 0; what < want.length; what++) {
            Check.due(x.traverse(traverse, what), want[what]);
        }
    }

    private static ShaftPlumb firstJoinInTrouble() {
        ShaftPlumb x = Mines.closed();
        x.still(0);
        return x;
    }

    /** The traverse 0 closes on a join that has a wire without turning points, or has a too great for its c. */
    private static ShaftPlumb lastJoinInTrouble(int a) {
        ShaftPlumb x = Mines.legs(1);
        x.hang(5, 5);
        x.join(a > 300 ? 1 : 2, 0, 0, 100, a, 0);
        x.close(0, 2, 648000);
        return x;
    }

    private static ShaftPlumb lastJoinInTrouble() {
        return lastJoinInTrouble(300);
    }

    // ---- Promise 16

    private static void traverseTakesTraverses() {
        Check.sentence("Promise 16: there is no such traverse");
        Check.index(Mines::joins, x -> x.traverse(0, 0));
        Check.range(Check.INDEX, Mines::headings, 0, 1, (x, traverse) -> x.traverse(traverse, 9));
        Check.range(Check.INDEX, Mines::full, 0, 3, (x, traverse) -> x.traverse(traverse, 0));
    }

    private static void traverseTakesTenNumbers() {
        Check.sentence("Promise 16: what is 0 to 9, also where NONE is due");
        Check.range(Check.ARGUMENT, Mines::closed, 0, 9, (x, what) -> x.traverse(0, what));
        Check.range(Check.ARGUMENT, () -> Mines.legs(0), 0, 9, (x, what) -> x.traverse(0, what));
        Check.range(Check.ARGUMENT, TellingTest::firstJoinInTrouble, 0, 9, (x, what) -> x.traverse(0, what));
    }

    private static void traverseOrder() {
        Check.sentence("Promise 16: no such traverse comes before a wrong what");
        Check.index(Mines::joins, x -> x.traverse(0, 10));
        Check.index(Mines::closed, x -> x.traverse(1, -1));
    }

    private static void traverseWithoutLegs() {
        Check.sentence("Promise 16: a traverse without legs");
        all(Mines.legs(0), 0, 0, 0, NONE, NONE, 5, NONE, 0, NONE, NONE, NONE);
    }

    private static void traverseNotClosed() {
        Check.sentence("Promise 16: 2, 3, 5 and 7 to 9 are NONE if it is not closed");
        all(Mines.legs(1), 0, 0, 1, NONE, NONE, 0, NONE, 1000, NONE, NONE, NONE);
        all(Mines.legs(12), 0, 0, 12, NONE, NONE, 0, NONE, 12000, NONE, NONE, NONE);
    }

    private static void traverseClosed() {
        Check.sentence("Promise 16: a closed traverse in no trouble, and in trouble 8");
        all(Mines.closed(10), 0, 0, 1, 1, 648000, 0, 10, 1000, 0, 0, 0);
        all(Mines.closed(31), 0, 0, 1, 1, 648000, 8, 31, 1000, 0, 0, 0);
    }

    private static void traverseInTrouble() {
        Check.sentence("Promise 16: 5 and 7 to 9 are NONE in trouble 6 and in trouble 7");
        all(firstJoinInTrouble(), 0, 0, 1, 1, 648000, 6, NONE, 1000, NONE, NONE, NONE);
        all(lastJoinInTrouble(300), 0, 0, 1, 2, 648000, 7, NONE, 1000, NONE, NONE, NONE);
        all(lastJoinInTrouble(301), 0, 0, 1, 2, 648000, 7, NONE, 1000, NONE, NONE, NONE);
    }

    /** A full mine, whose traverse 3 has the lengths 7, 1007, 2007 and so on, and closes on the join 1. */
    private static ShaftPlumb fullAndClosed() {
        ShaftPlumb x = Mines.full();
        x.close(3, 1, FOURTH_CLOSING);
        return x;
    }

    private static void traverseTellsOfFourth() {
        Check.sentence("Promise 16: the fourth traverse is told like the others");
        ShaftPlumb x = fullAndClosed();
        int east = x.leg(3, 11, 3) - 1000;
        int north = x.leg(3, 11, 4) - 400;
        int miss = (int) Math.sqrt((double) east * east + (double) north * north);
        all(x, 3, 3, 12, 1, FOURTH_CLOSING, 0, 50, 66084, east, north, miss);
        Check.due(x.close(3, 1, FOURTH_CLOSING + 40), 0);
        Check.due(x.close(3, 1, FOURTH_CLOSING + 41), 8);
    }

    private static void sumOfLengths() {
        Check.sentence("Promise 16: 6 the sum of its lengths");
        ShaftPlumb x = Mines.legs(0);
        for (int i = 0; i < 12; i++) {
            Check.due(x.traverse(0, 6), 200000 * i);
            x.addLeg(0, 0, 200000);
        }
        Check.due(x.traverse(0, 6), 2400000);
        x.dropLeg(0);
        Check.due(x.traverse(0, 6), 2200000);
    }

    private static void gapOfLegs() {
        Check.sentence("TRAVERSES: the gap is the closing bearing minus the start of the last join");
        ShaftPlumb x = Mines.wires();
        x.join(0, 1, 123, 1000, 1000, 5);
        x.join(1, 0, 4000, 1000, 1000, -7);
        x.begin(0);
        int last = 123 + 5;
        for (int leg = 0; leg < 12; leg++) {
            x.addLeg(0, 1000 * leg + 9, 50);
            last = (last + 1000 * leg + 9 + (leg == 0 ? 0 : 648000)) % 1296000;
            x.close(0, 1, 10000 + leg);
            int turned = (last + 10000 + leg + 648000) % 1296000 - (4000 - 7);
            Check.due(x.leg(0, leg, 2), last);
            Check.due(x.traverse(0, 5), turned > 647999 ? turned - 1296000 : turned);
            x.undo();
        }
    }

    /** One leg to the south, so that the closing bearing is the closing angle. */
    private static void gap(int want, int closing, int lastStart) {
        ShaftPlumb x = Mines.joins(lastStart);
        x.begin(0);
        x.addLeg(0, 648000, 1);
        x.close(0, 1, closing);
        Check.due(x.traverse(0, 5), want);
    }

    private static void gapIsCentred() {
        Check.sentence("ANGLES: a gap is centred to -648000 to 647999");
        gap(0, 0, 0);
        gap(647999, 647999, 0);
        gap(-648000, 648000, 0);
        gap(-647999, 648001, 0);
        gap(-1, 1295999, 0);
        gap(1, 0, 1295999);
        gap(-1, 0, 1);
        gap(-648000, 0, 648000);
        gap(647999, 0, 648001);
        gap(0, 1295999, 1295999);
        gap(-648000, 1295999, 647999);
        gap(647999, 1295999, 648000);
    }

    /** Legs that all have the bearing 648000, so that the gap is the closing angle, centred. */
    private static ShaftPlumb southward(int legs, int tolerance) {
        ShaftPlumb x = Mines.joins();
        x.set(1, tolerance);
        x.begin(0);
        for (int i = 0; i < legs; i++) {
            x.addLeg(0, 648000, 10);
        }
        return x;
    }

    private static void tolerated(int legs, int tolerance, int most) {
        ShaftPlumb x = southward(legs, tolerance);
        Check.due(x.close(0, 1, most), 0);
        Check.due(x.traverse(0, 5), most);
        Check.due(x.close(0, 1, most + 1), 8);
        Check.due(x.close(0, 1, 1296000 - most), 0);
        Check.due(x.traverse(0, 5), -most);
        Check.due(x.close(0, 1, 1296000 - most - 1), 8);
        Check.due(x.traverse(0, 5), -most - 1);
    }

    private static void toleranceOfEachNumberOfLegs() {
        Check.sentence("TRAVERSES: trouble 8 if the gap, without its sign, is greater than tolerance * the root");
        int[] roots = {1, 1, 1, 2, 2, 2, 2, 2, 3, 3, 3, 3, 3};
        for (int legs = 1; legs <= 12; legs++) {
            tolerated(legs, 30, 30 * roots[legs]);
        }
    }

    private static void toleranceOfLeastAndGreatest() {
        Check.sentence("TRAVERSES: trouble 8 with the tolerances 1 and 600");
        tolerated(1, 1, 1);
        tolerated(12, 1, 3);
        tolerated(1, 600, 600);
        tolerated(12, 600, 1800);
        ShaftPlumb x = southward(1, 600);
        Check.due(x.close(0, 1, 648000), 8);
    }

    private static void miss() {
        Check.sentence("Promise 16: 7 and 8 its miss to the east and to the north, and 9 the root of both squares");
        ShaftPlumb x = Mines.joins();
        x.begin(0);
        x.addLeg(0, 0, 400);
        x.addLeg(0, 972000, 1300);
        x.close(0, 1, 0);
        all(x, 0, 0, 2, 1, 0, 8, 324000 + 648000 - 1296000, 1700, 300, 400, 500);
        x.hang(1, 1);
        Mines.read(x, 2, 100, 100, 100);
        x.join(2, 1, 0, 1000, 1000, 0);
        x.close(0, 2, 0);
        Check.due(x.traverse(0, 7), 1299);
        Check.due(x.traverse(0, 8), 399);
        Check.due(x.traverse(0, 9), 1358);
    }

    /** From one corner of all coordinates, away from another one, at which it closes. */
    private static ShaftPlumb farthest(int side) {
        ShaftPlumb x = new ShaftPlumb();
        x.hang(1000000 * side, 1000000 * side);
        x.hang(-1000000 * side, -1000000 * side);
        Mines.read(x, 0, 1, 1, 1);
        Mines.read(x, 1, 1, 1, 1);
        x.join(0, 1, 162000, 1000, 1000, 0);
        x.join(1, 0, 162000, 1000, 1000, 0);
        x.begin(0);
        x.addLeg(0, side > 0 ? 0 : 648000, 200000);
        for (int i = 1; i < 12; i++) {
            x.addLeg(0, 648000, 200000);
        }
        x.close(0, 1, side > 0 ? 648000 : 0);
        return x;
    }

    private static void missOfGreatNumbers() {
        Check.sentence("Promise 16: the greatest misses, with their signs");
        int step = 200000 / 10000 * new ShaftPlumb().sine(162000);
        int most = 2000000 + 12 * step;
        long square = 2L * most * most;
        long root = (long) Math.sqrt((double) square);
        Check.due(root * root <= square && (root + 1) * (root + 1) > square, true);
        for (int side = -1; side <= 1; side += 2) {
            ShaftPlumb x = farthest(side);
            Check.due(x.traverse(0, 5), 0);
            Check.due(x.traverse(0, 7), side * most);
            Check.due(x.traverse(0, 8), side * most);
            Check.due(x.traverse(0, 9), root);
        }
    }

    private static void traverseLooks() {
        Check.sentence("Promise 16: not undoable, traverse only looks");
        for (int i = 0; i <= 9; i++) {
            int what = i;
            Check.looks(Mines::closed, x -> x.traverse(0, what));
        }
    }

    // ---- Promise 17

    private static void legTakesTraverses() {
        Check.sentence("Promise 17: there is no such traverse");
        Check.index(Mines::joins, x -> x.leg(0, 0, 0));
        Check.range(Check.INDEX, Mines::headings, 0, 1, (x, traverse) -> x.leg(traverse, 0, 0));
        Check.range(Check.INDEX, Mines::full, 0, 3, (x, traverse) -> x.leg(traverse, 11, 0));
    }

    private static void legTakesLegs() {
        Check.sentence("Promise 17: there is no such leg");
        Check.index(() -> Mines.legs(0), x -> x.leg(0, 0, 0));
        Check.range(Check.INDEX, () -> Mines.legs(1), 0, 0, (x, leg) -> x.leg(0, leg, 0));
        Check.range(Check.INDEX, () -> Mines.legs(12), 0, 11, (x, leg) -> x.leg(0, leg, 0));
        Check.index(TellingTest::droppedLeg, x -> x.leg(0, 1, 0));
    }

    private static ShaftPlumb droppedLeg() {
        ShaftPlumb x = Mines.legs(2);
        x.dropLeg(0);
        return x;
    }

    private static void legTakesFiveNumbers() {
        Check.sentence("Promise 17: what is 0 to 4, also where NONE is due");
        Check.range(Check.ARGUMENT, Mines::closed, 0, 4, (x, what) -> x.leg(0, 0, what));
        Check.range(Check.ARGUMENT, TellingTest::firstJoinInTrouble, 0, 4, (x, what) -> x.leg(0, 0, what));
    }

    private static void legTellsOfLast() {
        Check.sentence("Promise 17: the last leg of the fourth traverse is told like the others");
        ShaftPlumb x = fullAndClosed();
        Check.due(x.leg(3, 11, 0), 550003);
        Check.due(x.leg(3, 11, 1), 11007);
        Check.due(x.leg(3, 11, 2), 960506);
        Check.due(x.leg(3, 11, 3), x.leg(3, 10, 3) + sized(11007, x.sine(960506)));
        Check.due(x.leg(3, 11, 4), x.leg(3, 10, 4) + sized(11007, x.sine(960506 + 324000)));
    }

    private static void legOrder() {
        Check.sentence("Promise 17: no such traverse or leg comes before a wrong what");
        Check.index(Mines::joins, x -> x.leg(0, 0, 5));
        Check.index(Mines::closed, x -> x.leg(1, 0, -1));
        Check.index(Mines::closed, x -> x.leg(0, 1, 5));
        Check.index(Mines::closed, x -> x.leg(0, -1, -1));
    }

    private static void leg(ShaftPlumb x, int number, int... want) {
        for (int what = 0; what < want.length; what++) {
            Check.due(x.leg(0, number, what), want[what]);
        }
    }

    private static void legInTrouble() {
        Check.sentence("Promise 17: 2 to 4 are NONE if the first join is in trouble");
        leg(firstJoinInTrouble(), 0, 324000, 1000, NONE, NONE, NONE);
        ShaftPlumb four = Mines.wires();
        four.join(0, 1, 0, 100, 301, 0);
        four.begin(0);
        four.addLeg(0, 7, 8);
        leg(four, 0, 7, 8, NONE, NONE, NONE);
        Check.sentence("Promise 17: 2 to 4 are not NONE in trouble 7 and in trouble 8");
        leg(lastJoinInTrouble(), 0, 0, 1000, 0, 0, 1000);
        leg(Mines.closed(31), 0, 324000, 1000, 324000, 1000, 0);
    }

    private static void firstBearing(int want, int start, int angle) {
        ShaftPlumb x = Mines.wires();
        x.join(0, 1, start, 1000, 1000, 0);
        x.begin(0);
        x.addLeg(0, angle, 1);
        Check.due(x.leg(0, 0, 2), want);
    }

    private static void bearingOfFirstLeg() {
        Check.sentence("TRAVERSES: the bearing of the leg 0 is the start + its angle, normed");
        firstBearing(0, 0, 0);
        firstBearing(1295999, 1295999, 0);
        firstBearing(1295999, 0, 1295999);
        firstBearing(1295999, 1000000, 295999);
        firstBearing(0, 1000000, 296000);
        firstBearing(0, 1, 1295999);
        firstBearing(0, 1295999, 1);
        firstBearing(1295998, 1295999, 1295999);
        firstBearing(0, 648000, 648000);
    }

    private static void laterBearing(int want, int before, int angle) {
        ShaftPlumb x = Mines.legs(0);
        x.addLeg(0, before, 1);
        x.addLeg(0, angle, 1);
        Check.due(x.leg(0, 1, 2), want);
    }

    private static void bearingOfLaterLegs() {
        Check.sentence("TRAVERSES: the bearing of a later leg is the one before it + its angle + 648000, normed");
        laterBearing(648000, 0, 0);
        laterBearing(1295999, 0, 647999);
        laterBearing(0, 0, 648000);
        laterBearing(1295999, 647999, 0);
        laterBearing(0, 648000, 0);
        laterBearing(647999, 1295999, 0);
        laterBearing(647999, 0, 1295999);
        laterBearing(647998, 1295999, 1295999);
        laterBearing(1295999, 1295999, 648000);
        laterBearing(0, 1295999, 648001);
        ShaftPlumb x = Mines.legs(12);
        for (int i = 0; i < 12; i++) {
            Check.due(x.leg(0, i, 2), i % 2 * 648000);
        }
    }

    private static int sized(int length, int ratio) {
        return (int) ((long) length * ratio / 10000);
    }

    private static void coordinatesAreRounded() {
        Check.sentence("TRAVERSES: coordinates are those before plus length * sine / 10000, rounded toward 0");
        ShaftPlumb x = new ShaftPlumb();
        x.hang(-500, 700);
        x.hang(0, 0);
        Mines.read(x, 0, 1, 1, 1);
        Mines.read(x, 1, 1, 1, 1);
        x.join(0, 1, 100000, 1000, 1000, 2000);
        x.begin(0);
        x.addLeg(0, 6000, 999);
        x.addLeg(0, 1200000, 20001);
        int north = 700 + sized(999, 8648);
        Check.due(x.sine(432000), 8648);
        Check.due(x.sine(660000), -590);
        Check.due(x.sine(984000), -9982);
        leg(x, 0, 6000, 999, 108000, -500 + 499, north);
        leg(x, 1, 1200000, 20001, 660000, -1 + sized(20001, -590), north + sized(20001, -9982));
    }

    private static void direction(int bearing, int length, int east, int north) {
        ShaftPlumb x = Mines.legs(0);
        x.addLeg(0, bearing, length);
        Check.due(x.leg(0, 0, 3), east);
        Check.due(x.leg(0, 0, 4), north);
    }

    private static void coordinatesOfQuarters() {
        Check.sentence("TRAVERSES: the shortest and the longest leg to each side, and about north");
        direction(0, 1, 0, 1);
        direction(324000, 1, 1, 0);
        direction(648000, 1, 0, -1);
        direction(972000, 1, -1, 0);
        direction(0, 200000, 0, 200000);
        direction(324000, 200000, 200000, 0);
        direction(648000, 200000, 0, -200000);
        direction(972000, 200000, -200000, 0);
        direction(1000, 1, 0, 0);
        direction(647000, 1, 0, 0);
        direction(1295999, 200000, 0, 199980);
        direction(1, 200000, 0, 199980);
        direction(756000, 3, -1, -2);
    }

    private static void legLooks() {
        Check.sentence("Promise 17: not undoable, leg only looks");
        for (int i = 0; i <= 4; i++) {
            int what = i;
            Check.looks(Mines::closed, x -> x.leg(0, 0, what));
        }
    }

    // ---- Promise 18

    private static void troubleTakesTraverses() {
        Check.sentence("Promise 18: there is no such traverse, whatever the level");
        Check.index(Mines::joins, x -> x.trouble(0, 0));
        Check.index(Mines::closed, x -> x.trouble(1, -1));
        Check.index(Mines::closed, x -> x.trouble(-1, 99));
        Check.range(Check.INDEX, Mines::headings, 0, 1, (x, traverse) -> x.trouble(traverse, 0));
        Check.range(Check.INDEX, Mines::full, 0, 3, (x, traverse) -> x.trouble(traverse, 0));
    }

    private static void chain(ShaftPlumb x, int... want) {
        for (int level = 0; level < 6; level++) {
            Check.due(x.trouble(0, level), level < want.length ? want[level] : NONE);
        }
        Check.due(x.trouble(0, -1), NONE);
        Check.due(x.trouble(0, Integer.MIN_VALUE), NONE);
        Check.due(x.trouble(0, Integer.MAX_VALUE), NONE);
        Check.due(x.traverse(0, 4), want.length == 0 ? 0 : want[0]);
    }

    private static void troubleOfNone() {
        Check.sentence("Promise 18: NONE if there is none at this level, also if level is negative");
        chain(Mines.legs(1));
        chain(Mines.closed(30));
    }

    private static void troubleFive() {
        Check.sentence("TRAVERSES: trouble 5 if it has no legs");
        ShaftPlumb x = Mines.legs(1);
        chain(x);
        x.dropLeg(0);
        chain(x, 5);
    }

    private static void troubleSix() {
        Check.sentence("TRAVERSES: trouble 6 if its first join is in trouble, which is its cause");
        ShaftPlumb x = Mines.legs(1);
        x.still(0);
        chain(x, 6, 3, 1);
        Mines.read(x, 0, 100, 100, 121);
        chain(x, 6, 3, 2);
        x.set(0, 21);
        chain(x);
        x.still(1);
        chain(x, 6, 3, 1);
        ShaftPlumb four = Mines.wires();
        four.join(0, 1, 0, 100, 301, 0);
        four.begin(0);
        four.addLeg(0, 0, 1);
        chain(four, 6, 4);
        four.still(1);
        chain(four, 6, 3, 1);
    }

    private static void troubleSeven() {
        Check.sentence("TRAVERSES: trouble 7 if it is closed and its last join is in trouble, which is its cause");
        ShaftPlumb x = lastJoinInTrouble(300);
        chain(x, 7, 3, 1);
        Mines.read(x, 2, 75, 100, 125);
        chain(x, 7, 3, 2);
        x.set(0, 50);
        chain(x);
        chain(lastJoinInTrouble(301), 7, 4);
        ShaftPlumb open = lastJoinInTrouble(300);
        open.dropLeg(0);
        open.addLeg(0, 0, 1);
        chain(open);
    }

    private static void troubleEight() {
        Check.sentence("TRAVERSES: trouble 8 has no cause");
        chain(Mines.closed(31), 8);
        chain(Mines.closed(-31), 8);
        chain(Mines.closed(-30));
    }

    private static void troubleOfSeveral() {
        Check.sentence("WIRES: of several troubles of a traverse, the one with the smallest number");
        ShaftPlumb five = Mines.legs(0);
        five.still(0);
        chain(five, 5);
        five.addLeg(0, 0, 1);
        chain(five, 6, 3, 1);
        ShaftPlumb six = lastJoinInTrouble(300);
        six.still(0);
        chain(six, 6, 3, 1);
        six.undo();
        chain(six, 7, 3, 1);
        ShaftPlumb eight = lastJoinInTrouble(301);
        eight.close(0, 2, 0);
        chain(eight, 7, 4);
        eight.close(0, 1, 0);
        chain(eight, 8);
        eight.still(1);
        chain(eight, 6, 3, 1);
    }

    private static void troubleLooks() {
        Check.sentence("Promise 18: not undoable, trouble only looks");
        Check.looks(Mines::closed, x -> x.trouble(0, 0));
        Check.looks(TellingTest::firstJoinInTrouble, x -> x.trouble(0, 2));
    }
}
