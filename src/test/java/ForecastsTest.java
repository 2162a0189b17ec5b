/** Promises 19 to 24: apart, meets, sine, suspect, angleFor, reachBy. */
public final class ForecastsTest {
    private static final int NONE = ShaftPlumb.NONE;

    public static void main(String[] args) {
        apartTakesTraverses();
        apartInTrouble();
        apartOfItself();
        apartIsRounded();
        apartOfGreatNumbers();
        apartLooks();
        meetsTakesTraverses();
        meetsAtReach();
        meetsInTrouble();
        meetsLooks();
        sineTakesAngles();
        sineOfQuarters();
        sineIsNormed();
        sineIsRounded();
        sineLooks();
        suspectTakesTraverses();
        suspectIsNone();
        suspectFitsBest();
        suspectOfSeveral();
        suspectOfTwelve();
        suspectToTheSecond();
        suspectOfGreatNumbers();
        suspectLooks();
        angleForTakesNumbers();
        angleForTakesSizes();
        angleForOrder();
        angleForIsNone();
        angleForBothJoins();
        angleForEnds();
        angleForOtherJoin();
        angleForRounded();
        angleForNormed();
        angleForLooks();
        reachByTakesTraverses();
        reachByTakesAngles();
        reachByTakesMost();
        reachByOrder();
        reachByIsNone();
        reachByTriesLengths();
        reachBySmallest();
        reachByRounded();
        reachByTurns();
        reachByFull();
        reachByLooks();
        Check.end("ForecastsTest");
    }

    /** The traverse 0 is in trouble 6, the traverse 1 in none, the traverse 2 in trouble 5. */
    private static ShaftPlumb troubled() {
        ShaftPlumb x = Mines.joins();
        x.hang(0, 0);
        x.join(2, 0, 0, 1000, 1000, 0);
        x.begin(2);
        x.begin(1);
        x.begin(0);
        x.addLeg(0, 0, 5);
        x.addLeg(1, 0, 5);
        return x;
    }

    /** The traverse 0 is closed on a join in trouble, the traverse 1 is open. */
    private static ShaftPlumb lastJoinInTrouble() {
        ShaftPlumb x = Mines.headings(3000, 3000);
        x.join(1, 0, 0, 100, 301, 0);
        x.close(0, 2, 648000);
        return x;
    }

    private static ShaftPlumb firstJoinInTrouble() {
        ShaftPlumb x = Mines.closed();
        x.still(1);
        return x;
    }

    // ---- Promise 19

    private static void apartTakesTraverses() {
        Check.sentence("Promise 19: there is no such traverse, on either side, also where NONE is due");
        Check.index(Mines::joins, x -> x.apart(0, 0));
        Check.range(Check.INDEX, Mines::headings, 0, 1, (x, one) -> x.apart(one, 1));
        Check.range(Check.INDEX, Mines::headings, 0, 1, (x, other) -> x.apart(0, other));
        Check.range(Check.INDEX, Mines::full, 0, 3, (x, one) -> x.apart(one, 2));
        Check.range(Check.INDEX, Mines::full, 0, 3, (x, other) -> x.apart(2, other));
        Check.index(ForecastsTest::troubled, x -> x.apart(2, 3));
        Check.index(ForecastsTest::troubled, x -> x.apart(-1, 2));
    }

    private static void apartInTrouble() {
        Check.sentence("Promise 19: NONE if one of them is in trouble 5 or 6");
        ShaftPlumb x = troubled();
        Check.due(x.apart(0, 1), NONE);
        Check.due(x.apart(1, 0), NONE);
        Check.due(x.apart(2, 1), NONE);
        Check.due(x.apart(1, 2), NONE);
        Check.due(x.apart(2, 2), NONE);
        Check.due(x.apart(0, 0), NONE);
        Check.due(x.apart(0, 2), NONE);
        Check.due(x.apart(1, 1), 0);
        Check.sentence("Promise 19: not NONE in trouble 7 and in trouble 8");
        Check.due(lastJoinInTrouble().apart(0, 1), 1000);
        Check.due(lastJoinInTrouble().apart(1, 0), 1000);
        ShaftPlumb eight = Mines.headings(3000, 3000);
        Check.due(eight.close(0, 1, 0), 8);
        Check.due(eight.apart(0, 1), 1000);
        Check.due(eight.apart(1, 0), 1000);
    }

    private static void apartOfItself() {
        Check.sentence("Promise 19: a traverse is 0 apart from itself");
        Check.due(Mines.headings().apart(1, 1), 0);
        Check.due(Mines.legs(12).apart(0, 0), 0);
    }

    /** The ends of two equal legs lie as far apart as the wires at which they begin. */
    private static void distance(int want, int east, int north) {
        ShaftPlumb x = Mines.joins(east, north, 0);
        for (int i = 0; i < 2; i++) {
            x.begin(i);
            x.addLeg(i, 77777, 1234);
        }
        Check.due(x.apart(0, 1), want);
        Check.due(x.apart(1, 0), want);
    }

    private static void apartIsRounded() {
        Check.sentence("ANGLES: the root is the greatest whole number whose square is not greater");
        distance(0, 0, 0);
        distance(1, 0, -1);
        distance(1, 1, 1);
        distance(2, -2, 2);
        distance(3, 3, 0);
        distance(5, 3, -4);
        distance(5, 5, 1);
        distance(5, 5, 3);
        distance(6, 0, 6);
        distance(8, 8, 4);
        distance(9, -9, 0);
        distance(1414213, 1000000, -1000000);
        distance(1000000, 1000000, 0);
        distance(1000000, -1000000, 1000);
        distance(1000000, 1000000, 1414);
        distance(1000001, 1000000, 1415);
    }

    private static void apartOfGreatNumbers() {
        Check.sentence("Promise 19: the greatest distances");
        ShaftPlumb x = new ShaftPlumb();
        x.hang(-1000000, 0);
        x.hang(1000000, 0);
        Mines.read(x, 0, 1, 1, 1);
        Mines.read(x, 1, 1, 1, 1);
        x.join(0, 1, 972000, 1000, 1000, 0);
        x.join(1, 0, 324000, 1000, 1000, 0);
        for (int i = 0; i < 2; i++) {
            x.begin(i);
            x.addLeg(i, 0, 200000);
            for (int leg = 1; leg < 12; leg++) {
                x.addLeg(i, 648000, 200000);
            }
        }
        Check.due(x.leg(0, 11, 3), -3400000);
        Check.due(x.leg(1, 11, 3), 3400000);
        Check.due(x.apart(0, 1), 6800000);
        Check.due(x.apart(1, 0), 6800000);
    }

    private static void apartLooks() {
        Check.sentence("Promise 19: not undoable, apart only looks");
        Check.looks(Mines::headings, x -> x.apart(0, 1));
    }

    // ---- Promise 20

    private static int met(ShaftPlumb x, int one, int other) {
        return x.meets(one, other) ? 1 : 0;
    }

    private static void meetsTakesTraverses() {
        Check.sentence("Promise 20: there is no such traverse, on either side");
        Check.index(Mines::joins, x -> met(x, 0, 0));
        Check.range(Check.INDEX, Mines::headings, 0, 1, (x, one) -> met(x, one, 1));
        Check.range(Check.INDEX, Mines::headings, 0, 1, (x, other) -> met(x, 0, other));
        Check.range(Check.INDEX, Mines::full, 0, 3, (x, other) -> met(x, 0, other));
        Check.index(ForecastsTest::troubled, x -> met(x, 2, 3));
    }

    private static boolean meetsWith(int reach, int one, int other) {
        ShaftPlumb x = Mines.headings();
        x.set(2, reach);
        return x.meets(one, other);
    }

    private static void meetsAtReach() {
        Check.sentence("Promise 20: the distance is at most the reach");
        Check.due(meetsWith(999, 0, 1), false);
        Check.due(meetsWith(1000, 0, 1), true);
        Check.due(meetsWith(1001, 1, 0), true);
        Check.due(meetsWith(0, 0, 1), false);
        Check.due(meetsWith(0, 1, 1), true);
        Check.due(meetsWith(999999, 1, 0), true);
        Check.due(Mines.headings().meets(0, 1), false);
    }

    private static void meetsInTrouble() {
        Check.sentence("Promise 20: false if apart() is NONE");
        ShaftPlumb x = troubled();
        x.set(2, 999999);
        Check.due(x.meets(0, 1), false);
        Check.due(x.meets(1, 0), false);
        Check.due(x.meets(2, 1), false);
        Check.due(x.meets(1, 2), false);
        Check.due(x.meets(2, 2), false);
        Check.due(x.meets(1, 1), true);
        ShaftPlumb seven = lastJoinInTrouble();
        seven.set(2, 1000);
        Check.due(seven.meets(0, 1), true);
    }

    private static void meetsLooks() {
        Check.sentence("Promise 20: not undoable, meets only looks");
        Check.looks(Mines::headings, x -> met(x, 0, 1));
    }

    // ---- Promise 21

    private static void sineTakesAngles() {
        Check.sentence("Promise 21: an angle is -10000000 to 10000000");
        Check.range(Check.ARGUMENT, ShaftPlumb::new, -10000000, 10000000, (x, angle) -> x.sine(angle));
        sine(10000000, -9770);
        sine(-10000000, 9770);
    }

    private static void sine(int angle, int want) {
        Check.due(new ShaftPlumb().sine(angle), want);
    }

    private static void sineOfQuarters() {
        Check.sentence("ANGLES: the sine at its least and greatest, and about half a circle");
        sine(0, 0);
        sine(324000, 10000);
        sine(648000, 0);
        sine(972000, -10000);
        sine(1295999, 0);
        sine(323999, 9999);
        sine(324001, 9999);
        sine(971999, -9999);
        sine(972001, -9999);
        sine(647979, 1);
        sine(647980, 0);
        sine(648020, 0);
        sine(648021, -1);
    }

    private static void sineIsNormed() {
        Check.sentence("ANGLES: the sine is found for the normed angle");
        sine(1296000, 0);
        sine(1404000, 5000);
        sine(-1, 0);
        sine(-100, sineBelow(100));
        sine(-108000, -5000);
        sine(-324000, -10000);
        sine(-648000, 0);
        sine(-972000, 10000);
        sine(-1296000, 0);
        sine(7 * 1296000 + 108000, 5000);
        sine(-7 * 1296000 + 108000, 5000);
    }

    private static int sineBelow(int angle) {
        return -new ShaftPlumb().sine(angle);
    }

    private static void sineIsRounded() {
        Check.sentence("ANGLES: the sine is rounded toward 0");
        sine(20, 0);
        sine(21, 1);
        sine(-20, 0);
        sine(-21, -1);
        sine(200000, 8233);
        sine(-200000, -8233);
        sine(108000, 5000);
        sine(432000, 8648);
        sine(540000, 5000);
        sine(660000, -590);
        sine(756000, -5000);
        sine(1188000, -5000);
    }

    private static void sineLooks() {
        Check.sentence("Promise 21: not undoable, sine only looks");
        Check.looks(Mines::closed, x -> x.sine(324000));
    }

    // ---- Promise 22

    private static void suspectTakesTraverses() {
        Check.sentence("Promise 22: there is no such traverse");
        Check.index(Mines::joins, x -> x.suspect(0));
        Check.range(Check.INDEX, Mines::closed, 0, 0, (x, traverse) -> x.suspect(traverse));
        Check.range(Check.INDEX, Mines::full, 0, 3, (x, traverse) -> x.suspect(traverse));
    }

    private static void suspectIsNone() {
        Check.sentence("Promise 22: NONE if traverse() with 7 is NONE");
        Check.due(Mines.legs(0).suspect(0), NONE);
        Check.due(Mines.legs(12).suspect(0), NONE);
        Check.due(firstJoinInTrouble().suspect(0), NONE);
        Check.due(lastJoinInTrouble().suspect(0), NONE);
        Check.due(Mines.closed(30).suspect(0), 0);
        Check.due(Mines.closed(31).suspect(0), 0);
    }

    /** Closes the traverse 0 of a mine whose legs are told by pairs of an angle and a length. */
    private static ShaftPlumb missing(int... legs) {
        ShaftPlumb x = Mines.legs(0);
        for (int i = 0; i < legs.length; i += 2) {
            x.addLeg(0, legs[i], legs[i + 1]);
        }
        x.close(0, 1, 0);
        return x;
    }

    private static void suspectFitsBest() {
        Check.sentence("Promise 22: the size of (miss to the east * cosine - miss to the north * sine) is least");
        Check.due(missing(0, 400, 972000, 1300).suspect(0), 0);
        Check.due(missing(0, 400, 972000, 1500).suspect(0), 1);
        ShaftPlumb slant = missing(1296000 - 162000, 2000, 648000 + 324000, 5000);
        Check.due(slant.traverse(0, 7) > 1000, true);
        Check.due(slant.traverse(0, 8) > 1000, true);
        Check.due(slant.suspect(0), 1);
        ShaftPlumb other = missing(162000, 2000, 648000 + 972000 - 1296000, 5000);
        Check.due(other.traverse(0, 7) < -1000, true);
        Check.due(other.traverse(0, 8) > 1000, true);
        Check.due(other.suspect(0), 1);
        Check.due(missing(0, 400, 972000, 1300, 972000, 100).suspect(0), 0);
    }

    private static void suspectOfSeveral() {
        Check.sentence("Promise 22: of several the one with the smallest number");
        ShaftPlumb x = missing(324000, 1500, 324000, 700, 0, 1500, 648000, 1300);
        Check.due(x.traverse(0, 7), 500);
        Check.due(x.traverse(0, 8), 700 - 2800);
        Check.due(x.suspect(0), 1);
        ShaftPlumb west = missing(0, 600, 0, 600, 972000, 1000);
        Check.due(west.traverse(0, 7), -2000);
        Check.due(west.traverse(0, 8), 0);
        Check.due(west.suspect(0), 2);
        ShaftPlumb none = missing(324000, 500, 648000, 500);
        Check.due(none.traverse(0, 9), 0);
        Check.due(none.suspect(0), 0);
        ShaftPlumb last = missing(324000, 500, 648000, 500, 972000, 10, 972000, 10, 972000, 10);
        Check.due(last.traverse(0, 8), 0);
        Check.due(last.suspect(0), 0);
    }

    private static void suspectOfTwelve() {
        Check.sentence("Promise 22: the last of 12 legs");
        ShaftPlumb x = Mines.legs(0);
        for (int i = 0; i < 11; i++) {
            x.addLeg(0, i == 0 ? 0 : 648000, 100);
        }
        x.addLeg(0, 972000, 50000);
        x.close(0, 1, 0);
        Check.due(x.traverse(0, 7), 49000);
        Check.due(x.traverse(0, 8), 1100);
        Check.due(x.suspect(0), 11);
    }

    /** Two legs that are too short to lead anywhere, and a miss of 1000 to the east. */
    private static void suspectOfBearings(int want, int one, int other) {
        ShaftPlumb x = Mines.joins(-1000, 0, 0);
        x.begin(0);
        x.addLeg(0, one, 1);
        x.addLeg(0, Math.floorMod(other - one - 648000, 1296000), 1);
        x.close(0, 1, 0);
        Check.due(x.leg(0, 1, 2), other);
        Check.due(x.traverse(0, 7), 1000);
        Check.due(x.traverse(0, 8), 0);
        Check.due(x.suspect(0), want);
    }

    private static void suspectToTheSecond() {
        Check.sentence("Promise 22: with the cosine of just the bearing; 99998 to 100041 have the cosine 8836");
        suspectOfBearings(0, 100020, 100041);
        suspectOfBearings(0, 100020, 99998);
        suspectOfBearings(1, 100041, 100042);
        suspectOfBearings(1, 99997, 99998);
        Check.sentence("Promise 22: with the cosine of just the bearing; 1196003 to 1196046 have the cosine 8837");
        suspectOfBearings(0, 1196020, 1196003);
        suspectOfBearings(0, 1196020, 1196046);
        suspectOfBearings(1, 1196003, 1196002);
        suspectOfBearings(1, 1196047, 1196046);
    }

    private static void suspectOfGreatNumbers() {
        Check.sentence("Promise 22: what is computed within a formula is exact");
        ShaftPlumb x = Mines.joins(0, 0, 0);
        x.begin(0);
        x.addLeg(0, 0, 1);
        x.addLeg(0, 972000, 200000);
        x.addLeg(0, 648000, 200000);
        x.addLeg(0, 648000, 29497);
        x.close(0, 1, 0);
        Check.due(x.traverse(0, 7), 429497);
        Check.due(x.traverse(0, 8), 1);
        Check.due(x.suspect(0), 1);
    }

    private static void suspectLooks() {
        Check.sentence("Promise 22: not undoable, suspect only looks");
        Check.looks(Mines::closed, x -> x.suspect(0));
    }

    // ---- Promise 23

    private static void angleForTakesNumbers() {
        Check.sentence("Promise 23: there is no such traverse");
        Check.index(Mines::joins, x -> x.angleFor(0, 0, 0));
        Check.range(Check.INDEX, Mines::closed, 0, 0, (x, traverse) -> x.angleFor(traverse, 0, 0));
        Check.range(Check.INDEX, Mines::full, 0, 3, (x, traverse) -> x.angleFor(traverse, 0, 0));
        Check.sentence("Promise 23: there is no such join");
        Check.range(Check.INDEX, Mines::closed, 0, 1, (x, join) -> x.angleFor(0, join, 0));
        Check.range(Check.INDEX, Mines::full, 0, 3, (x, join) -> x.angleFor(0, join, 0));
    }

    private static void angleForTakesSizes() {
        Check.sentence("Promise 23: a size is 0 to 3600");
        Check.range(Check.ARGUMENT, Mines::closed, 0, 3600, (x, size) -> x.angleFor(0, 0, size));
        Check.range(Check.ARGUMENT, () -> Mines.legs(0), 0, 3600, (x, size) -> x.angleFor(0, 1, size));
        Check.range(Check.ARGUMENT, ForecastsTest::firstJoinInTrouble, 0, 3600, (x, size) -> x.angleFor(0, 1, size));
    }

    private static void angleForOrder() {
        Check.sentence("Promise 23: no such traverse or join comes before a size out of range");
        Check.index(Mines::joins, x -> x.angleFor(0, 0, -1));
        Check.index(Mines::closed, x -> x.angleFor(1, 0, 3601));
        Check.index(Mines::closed, x -> x.angleFor(0, 2, -1));
        Check.index(Mines::closed, x -> x.angleFor(0, -1, 3601));
    }

    private static void angleForIsNone() {
        Check.sentence("Promise 23: NONE if the traverse is not closed, or is in a trouble from 5 to 7");
        Check.due(Mines.legs(0).angleFor(0, 0, 3600), NONE);
        Check.due(Mines.legs(1).angleFor(0, 0, 3600), NONE);
        Check.due(Mines.legs(1).angleFor(0, 1, 3600), NONE);
        Check.due(firstJoinInTrouble().angleFor(0, 0, 3600), NONE);
        Check.due(firstJoinInTrouble().angleFor(0, 1, 3600), NONE);
        for (int join = 0; join <= 2; join++) {
            Check.due(lastJoinInTrouble().angleFor(0, join, 3600), NONE);
        }
        Check.sentence("Promise 23: not NONE in trouble 8");
        Check.due(Mines.closed(31).angleFor(0, 0, 0), -31);
    }

    private static void angleForBothJoins() {
        Check.sentence("Promise 23: the smallest small angle of the first join, and of the last one");
        ShaftPlumb x = Mines.closed(10);
        Check.due(x.angleFor(0, 0, 0), -10);
        Check.due(x.angleFor(0, 0, 3), -13);
        Check.due(x.angleFor(0, 1, 0), 10);
        Check.due(x.angleFor(0, 1, 3), 7);
        x.measure(0, 5);
        Check.due(x.angleFor(0, 0, 0), -10);
        Check.due(x.angleFor(0, 1, 0), 15);
        x.measure(1, 6);
        Check.due(x.angleFor(0, 0, 0), -4);
        Check.due(x.angleFor(0, 1, 0), 15);
        Check.due(x.joinOf(0, 5), 5);
        Check.due(x.joinOf(1, 5), 6);
    }

    private static void angleForEnds() {
        Check.sentence("Promise 23: the small angles -3600 and 3600 are tried, none beyond them");
        ShaftPlumb x = Mines.closed(3600);
        Check.due(x.angleFor(0, 0, 0), -3600);
        Check.due(x.angleFor(0, 1, 0), 3600);
        Check.due(x.angleFor(0, 0, 3600), -3600);
        Check.due(x.angleFor(0, 1, 3600), 0);
        x.close(0, 1, 648001);
        Check.due(x.angleFor(0, 0, 0), NONE);
        Check.due(x.angleFor(0, 1, 0), NONE);
        Check.due(x.angleFor(0, 0, 1), -3600);
        Check.due(x.angleFor(0, 1, 1), 3600);
        ShaftPlumb y = Mines.closed(-3600);
        Check.due(y.angleFor(0, 0, 0), 3600);
        Check.due(y.angleFor(0, 1, 0), -3600);
        Check.due(Mines.closed(7200).angleFor(0, 0, 3600), -3600);
        Check.due(Mines.closed(7201).angleFor(0, 0, 3600), NONE);
        Check.due(Mines.closed(-7200).angleFor(0, 1, 3600), -3600);
        Check.due(Mines.closed(-648000).angleFor(0, 0, 3600), NONE);
        Check.due(Mines.closed(-648000).angleFor(0, 1, 3600), NONE);
    }

    private static ShaftPlumb otherJoin(int gap, int a) {
        ShaftPlumb x = Mines.closed(gap);
        x.join(0, 1, 0, 100, a, 0);
        return x;
    }

    private static void angleForOtherJoin() {
        Check.sentence("Promise 23: also if that join has nothing to do with the traverse");
        Check.due(otherJoin(10, 100).angleFor(0, 2, 9), NONE);
        Check.due(otherJoin(10, 100).angleFor(0, 2, 10), -3600);
        Check.due(otherJoin(-10, 100).angleFor(0, 2, 9), NONE);
        Check.due(otherJoin(-10, 100).angleFor(0, 2, 10), -3600);
        Check.due(otherJoin(0, 100).angleFor(0, 2, 0), -3600);
        Check.due(otherJoin(10, 301).angleFor(0, 2, 9), NONE);
        Check.due(otherJoin(10, 301).angleFor(0, 2, 10), -3600);
        ShaftPlumb x = Mines.closed(10);
        x.hang(0, 0);
        x.join(2, 0, 0, 100, 100, 7);
        Check.due(x.angleFor(0, 2, 9), NONE);
        Check.due(x.angleFor(0, 2, 10), -3600);
    }

    private static void angleForRounded() {
        Check.sentence("Promise 23: small angles whose g * a / c is the same, and those that leap over some");
        ShaftPlumb x = Mines.wires();
        x.join(0, 1, 0, 1000, 100, 0);
        x.join(0, 1, 1295998, 1000, 3000, 0);
        x.begin(0);
        x.addLeg(0, 648000, 1);
        x.close(0, 1, 0);
        Check.due(x.traverse(0, 5), 2);
        Check.due(x.angleFor(0, 0, 0), -29);
        Check.due(x.angleFor(0, 0, 1), -39);
        Check.due(x.angleFor(0, 0, 2), -49);
        Check.due(x.angleFor(0, 1, 0), NONE);
        Check.due(x.angleFor(0, 1, 1), 1);
        Check.due(x.angleFor(0, 1, 2), 0);
        x.close(0, 1, 1295998);
        Check.due(x.traverse(0, 5), 0);
        Check.due(x.angleFor(0, 0, 0), -9);
        Check.due(x.angleFor(0, 1, 0), 0);
    }

    private static void angleForNormed() {
        Check.sentence("Promise 23: the start of the join is normed, the gap is centred");
        ShaftPlumb x = Mines.joins(1295999);
        x.begin(0);
        x.addLeg(0, 648000, 1);
        x.close(0, 1, 5);
        Check.due(x.traverse(0, 5), 6);
        Check.due(x.angleFor(0, 0, 0), -6);
        Check.due(x.angleFor(0, 1, 0), 6);
        x.close(0, 1, 1295990);
        Check.due(x.angleFor(0, 0, 0), 9);
        Check.due(x.angleFor(0, 1, 0), -9);
        Check.due(x.angleFor(0, 1, 4), -13);
    }

    private static void angleForLooks() {
        Check.sentence("Promise 23: not undoable, angleFor only looks");
        Check.looks(Mines::closed, x -> x.angleFor(0, 0, 0));
        Check.looks(Mines::closed, x -> x.angleFor(0, 1, 3600));
    }

    // ---- Promise 24

    private static void reachByTakesTraverses() {
        Check.sentence("Promise 24: there is no such traverse, on either side, also where NONE is due");
        Check.index(Mines::joins, x -> x.reachBy(0, 0, 0, 1));
        Check.range(Check.INDEX, Mines::headings, 0, 1, (x, one) -> x.reachBy(one, 1, 0, 1));
        Check.range(Check.INDEX, Mines::headings, 0, 1, (x, other) -> x.reachBy(0, other, 0, 1));
        Check.range(Check.INDEX, Mines::full, 0, 3, (x, other) -> x.reachBy(1, other, 0, 1));
        Check.index(ForecastsTest::troubled, x -> x.reachBy(2, 3, 0, 1));
    }

    private static void reachByTakesAngles() {
        Check.sentence("Promise 24: angle is a bearing, 0 to 1295999, also where NONE is due");
        Check.range(Check.ARGUMENT, Mines::headings, 0, 1295999, (x, angle) -> x.reachBy(0, 1, angle, 1));
        Check.range(Check.ARGUMENT, ForecastsTest::troubled, 0, 1295999, (x, angle) -> x.reachBy(0, 1, angle, 1));
    }

    private static void reachByTakesMost() {
        Check.sentence("Promise 24: most is 1 to 2000, also where NONE is due");
        Check.range(Check.ARGUMENT, Mines::headings, 1, 2000, (x, most) -> x.reachBy(0, 1, 0, most));
        Check.range(Check.ARGUMENT, ForecastsTest::troubled, 1, 2000, (x, most) -> x.reachBy(2, 1, 0, most));
    }

    private static void reachByOrder() {
        Check.sentence("Promise 24: no such traverse comes before what is out of range");
        Check.index(Mines::joins, x -> x.reachBy(0, 0, -1, 0));
        Check.index(Mines::headings, x -> x.reachBy(2, 0, -1, 1));
        Check.index(Mines::headings, x -> x.reachBy(0, 2, 0, 0));
        Check.index(Mines::headings, x -> x.reachBy(0, -1, 1296000, 2001));
    }

    private static void reachByIsNone() {
        Check.sentence("Promise 24: NONE if apart() is NONE");
        ShaftPlumb x = troubled();
        Check.due(x.reachBy(0, 1, 0, 5), NONE);
        Check.due(x.reachBy(1, 0, 0, 5), NONE);
        Check.due(x.reachBy(2, 1, 0, 5), NONE);
        Check.due(x.reachBy(1, 2, 0, 5), NONE);
        Check.due(x.reachBy(2, 2, 0, 5), NONE);
        Check.due(x.reachBy(1, 1, 0, 5), 1000);
        Check.sentence("Promise 24: not NONE in trouble 7 and in trouble 8");
        Check.due(lastJoinInTrouble().reachBy(0, 1, 0, 5), 1000);
        Check.due(lastJoinInTrouble().reachBy(1, 0, 0, 5), 1000);
        ShaftPlumb eight = Mines.headings(3000, 6000);
        Check.due(eight.close(0, 1, 0), 8);
        Check.due(eight.reachBy(0, 1, 648000, 5), 3000);
    }

    private static void reachByTriesLengths() {
        Check.sentence("Promise 24: the lengths tried are 1000, 2000, and so on, up to most metres");
        ShaftPlumb x = Mines.headings(1000, 50000);
        Check.due(x.reachBy(0, 1, 648000, 2000), 49000);
        Check.due(x.reachBy(0, 1, 648000, 50), 49000);
        Check.due(x.reachBy(0, 1, 648000, 49), 49000);
        Check.due(x.reachBy(0, 1, 648000, 48), 48000);
        Check.due(x.reachBy(0, 1, 648000, 2), 2000);
        Check.due(x.reachBy(0, 1, 648000, 1), 1000);
        Check.due(x.reachBy(0, 1, 0, 2000), 1000);
        Check.due(x.reachBy(1, 0, 0, 2000), 49000);
        ShaftPlumb far = Mines.headings(200000, 1);
        for (int i = 1; i < 12; i++) {
            far.addLeg(0, 648000, 200000);
        }
        Check.due(far.reachBy(1, 0, 648000, 2000), 2000000);
        Check.due(far.reachBy(1, 0, 648000, 1999), 1999000);
    }

    private static void reachBySmallest() {
        Check.sentence("Promise 24: of several lengths the smallest one");
        ShaftPlumb x = Mines.headings(1000, 50500);
        Check.due(x.reachBy(0, 1, 648000, 2000), 49000);
        x.dropLeg(1);
        x.addLeg(1, 0, 50501);
        Check.due(x.reachBy(0, 1, 648000, 2000), 50000);
        Check.due(x.reachBy(0, 0, 648000, 2000), 1000);
    }

    /** Far to the side, several lengths have the same distance once it is rounded. */
    private static void reachByRounded() {
        Check.sentence("Promise 24: the distance as apart() would tell it");
        ShaftPlumb x = Mines.joins(1000000, 0, 0);
        x.begin(0);
        x.begin(1);
        x.addLeg(0, 0, 1000);
        x.addLeg(1, 0, 31000);
        Check.due(x.reachBy(0, 1, 648000, 100), 29000);
        x.dropLeg(1);
        x.addLeg(1, 0, 31414);
        Check.due(x.reachBy(0, 1, 648000, 100), 29000);
        x.dropLeg(1);
        x.addLeg(1, 0, 31415);
        Check.due(x.reachBy(0, 1, 648000, 100), 30000);
    }

    /** The last bearing is 324000, the aim lies 5000 to one side of the end. */
    private static void turned(int east, int north, int angle) {
        ShaftPlumb x = Mines.legs(0);
        x.addLeg(0, 324000, 9000);
        x.hang(9000 + east, north - 1);
        Mines.read(x, 2, 100, 100, 100);
        x.join(2, 0, 0, 1000, 1000, 0);
        x.begin(2);
        x.addLeg(1, 0, 1);
        Check.due(x.reachBy(0, 1, angle, 100), 5000);
        Check.due(x.reachBy(0, 1, (angle + 648000) % 1296000, 100), 1000);
    }

    private static void reachByTurns() {
        Check.sentence("Promise 24: the bearing of the further leg is the last one + angle + 648000, normed");
        turned(5000, 0, 648000);
        turned(0, 5000, 324000);
        turned(-5000, 0, 0);
        turned(0, -5000, 972000);
        turned(3535, 3535, 486000);
        turned(-3535, -3535, 1134000);
    }

    private static void reachByFull() {
        Check.sentence("Promise 24: also for a traverse that has 12 legs or is closed, as only apart() is asked");
        ShaftPlumb x = Mines.headings(1000, 20000);
        for (int i = 1; i < 12; i++) {
            x.addLeg(0, 648000, 1000);
        }
        Check.due(x.reachBy(0, 1, 648000, 2000), 8000);
        x.close(0, 1, 7);
        Check.due(x.reachBy(0, 1, 648000, 2000), 8000);
    }

    private static void reachByLooks() {
        Check.sentence("Promise 24: not undoable, reachBy only looks");
        Check.looks(Mines::headings, x -> x.reachBy(0, 1, 0, 2000));
    }
}
