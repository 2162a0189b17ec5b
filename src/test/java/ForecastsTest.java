/** Promises 19 to 24: apart, meets, sine, suspect, angleFor, reachBy. */
public final class ForecastsTest {
    private static final int NONE = ShaftPlumb.NONE;

    public static void main(String[] args) {
        apart();
        meets();
        sine();
        sineErrors();
        suspect();
        suspectOfSeveral();
        angleFor();
        angleForEdges();
        angleForErrors();
        reachBy();
        reachByRounded();
        reachByFull();
        reachByErrors();
        Check.end("ForecastsTest");
    }

    /** The traverses 0 and 1 go from (0, 0) and from (1000, 0) to the north by one leg each. */
    private static ShaftPlumb headings(int one, int other) {
        ShaftPlumb x = Mines.joins(0);
        x.begin(0);
        x.begin(1);
        x.addLeg(0, 0, one);
        x.addLeg(1, 0, other);
        return x;
    }

    private static void apart() {
        ShaftPlumb x = headings(3000, 3000);
        Check.due("apart", x.apart(0, 1), 1000);
        Check.due("apart", x.apart(0, 0), 0);
        x.addLeg(1, 648000, 1001);
        Check.due("apart", x.apart(0, 1), 1414);
        Check.due("apart", x.apart(1, 0), 1414);
        x.begin(0);
        Check.due("apart from trouble 5", x.apart(0, 2), NONE);
        Check.due("apart from trouble 5", x.apart(2, 0), NONE);
        Check.due("trouble 5 apart from itself", x.apart(2, 2), NONE);
        x.close(1, 0, 5);
        Check.due("apart in trouble 8", x.apart(0, 1), 1414);
        x.hang(0, 0);
        x.join(2, 0, 0, 1000, 1000, 0);
        x.begin(2);
        x.addLeg(3, 0, 5);
        Check.due("apart from trouble 6", x.apart(0, 3), NONE);
        Check.due("apart from trouble 6", x.apart(3, 0), NONE);
        Check.index(x, "apart(-1, 0)", () -> x.apart(-1, 0));
        Check.index(x, "apart(0, 4)", () -> x.apart(0, 4));
        Check.index(x, "apart(4, 0)", () -> x.apart(4, 0));
        Check.index(x, "apart(0, -1)", () -> x.apart(0, -1));
    }

    private static void meets() {
        ShaftPlumb x = headings(3000, 3000);
        Check.due("meets", x.meets(0, 1), false);
        x.set(2, 999);
        Check.due("meets farther than the reach", x.meets(0, 1), false);
        x.set(2, 1000);
        Check.due("meets at the reach", x.meets(0, 1), true);
        x.set(2, 0);
        Check.due("meets itself", x.meets(1, 1), true);
        x.begin(0);
        x.set(2, 999999);
        Check.due("meets in trouble 5", x.meets(0, 2), false);
        Check.due("meets in trouble 5", x.meets(2, 2), false);
        Check.index(x, "meets(-1, 0)", () -> x.meets(-1, 0) ? 1 : 0);
        Check.index(x, "meets(0, 3)", () -> x.meets(0, 3) ? 1 : 0);
        Check.index(x, "meets(3, 0)", () -> x.meets(3, 0) ? 1 : 0);
    }

    private static void sine() {
        ShaftPlumb x = new ShaftPlumb();
        int[][] wants = {
            {0, 0}, {1, 0}, {108000, 5000}, {200000, 8233}, {324000, 10000}, {432000, 8648}, {540000, 5000},
            {647999, 0}, {648000, 0}, {660000, -590}, {756000, -5000}, {972000, -10000}, {1188000, -5000},
            {1295999, 0}, {1296000, 0}, {1404000, 5000}, {-1, 0}, {-108000, -5000}, {-200000, -8233},
            {-324000, -10000}, {-648000, 0}, {-972000, 10000}, {-1296000, 0}, {10000000, -9770}, {-10000000, 9770},
        };
        for (int[] want : wants) {
            Check.due("sine(" + want[0] + ")", x.sine(want[0]), want[1]);
        }
    }

    private static void sineErrors() {
        ShaftPlumb x = new ShaftPlumb();
        Check.argument(x, "sine(10000001)", () -> x.sine(10000001));
        Check.argument(x, "sine(-10000001)", () -> x.sine(-10000001));
        Check.argument(x, "sine(MAX)", () -> x.sine(Integer.MAX_VALUE));
        Check.argument(x, "sine(MIN)", () -> x.sine(Integer.MIN_VALUE));
    }

    private static void suspect() {
        ShaftPlumb x = Mines.joins(0);
        Check.index(x, "suspect(0) without traverses", () -> x.suspect(0));
        x.begin(0);
        Check.due("suspect without legs", x.suspect(0), NONE);
        x.addLeg(0, 0, 400);
        x.addLeg(0, 972000, 1300);
        Check.due("suspect of an open traverse", x.suspect(0), NONE);
        x.close(0, 1, 0);
        Check.due("miss 300, 400 of legs to the north and to the east", x.suspect(0), 0);
        x.dropLeg(0);
        x.addLeg(0, 972000, 1500);
        x.close(0, 1, 0);
        Check.due("miss 500, 400", x.suspect(0), 1);
        x.still(0);
        Check.due("suspect in trouble 6", x.suspect(0), NONE);
        Check.index(x, "suspect(-1)", () -> x.suspect(-1));
        Check.index(x, "suspect(1)", () -> x.suspect(1));
    }

    private static void suspectOfSeveral() {
        ShaftPlumb x = Mines.joins(0);
        x.begin(0);
        x.addLeg(0, 324000, 1500);
        x.addLeg(0, 324000, 700);
        x.addLeg(0, 0, 1500);
        x.addLeg(0, 648000, 1300);
        Check.due("close", x.close(0, 1, 0), 0);
        Check.due("miss to the east", x.traverse(0, 7), 500);
        Check.due("miss to the north", x.traverse(0, 8), 700 - 2800);
        Check.due("legs east, north, south, south", x.suspect(0), 1);
        ShaftPlumb even = Mines.closed(0);
        even.dropLeg(0);
        even.addLeg(0, 0, 600);
        even.addLeg(0, 0, 600);
        even.addLeg(0, 972000, 1000);
        even.close(0, 1, 0);
        Check.due("miss to the east", even.traverse(0, 7), -2000);
        Check.due("no miss to the north", even.traverse(0, 8), 0);
        Check.due("legs north, south, west", even.suspect(0), 2);
        ShaftPlumb slant = Mines.joins(0);
        slant.begin(0);
        slant.addLeg(0, 1296000 - 162000, 2000);
        slant.addLeg(0, 648000 + 324000, 5000);
        slant.close(0, 1, 0);
        Check.due("miss to the east", slant.traverse(0, 7) > 1000, true);
        Check.due("miss to the north", slant.traverse(0, 8) > 1000, true);
        Check.due("legs to the north-west and to the north-east", slant.suspect(0), 1);
    }

    private static void angleFor() {
        ShaftPlumb x = Mines.closed(10);
        x.join(0, 1, 0, 1000, 1000, 0);
        Check.due("first join, size 0", x.angleFor(0, 0, 0), -10);
        Check.due("first join, size 3", x.angleFor(0, 0, 3), -13);
        Check.due("last join, size 0", x.angleFor(0, 1, 0), 10);
        Check.due("last join, size 3", x.angleFor(0, 1, 3), 7);
        Check.due("another join, size 9", x.angleFor(0, 2, 9), NONE);
        Check.due("another join, size 10", x.angleFor(0, 2, 10), -3600);
        x.measure(0, 5);
        Check.due("first join with a small angle", x.angleFor(0, 0, 0), -10);
        Check.due("last join with the other small angle", x.angleFor(0, 1, 0), 15);
        x.measure(1, 6);
        Check.due("last join with a small angle", x.angleFor(0, 1, 0), 15);
        Check.due("nothing is changed", x.joinOf(1, 5), 6);
    }

    private static void angleForEdges() {
        ShaftPlumb x = Mines.closed(3600);
        Check.due("gap 3600", x.angleFor(0, 0, 0), -3600);
        Check.due("gap 3600 of the last join", x.angleFor(0, 1, 0), 3600);
        Check.due("size 3600", x.angleFor(0, 1, 3600), 0);
        x.close(0, 1, 648001);
        Check.due("gap 3601", x.angleFor(0, 0, 0), NONE);
        Check.due("gap 3601 of the last join", x.angleFor(0, 1, 0), NONE);
        Check.due("gap 3601, size 1", x.angleFor(0, 0, 1), -3600);
        Check.due("gap 3601, size 1, last join", x.angleFor(0, 1, 1), 3600);
        x.close(0, 1, 1296000 - 3600);
        Check.due("gap near half a circle", x.angleFor(0, 0, 3600), NONE);
        ShaftPlumb slow = Mines.wires();
        slow.join(0, 1, 0, 1000, 100, 0);
        slow.join(0, 1, 1295998, 1000, 3000, 0);
        slow.begin(0);
        slow.addLeg(0, 648000, 1);
        slow.close(0, 1, 0);
        Check.due("gap", slow.traverse(0, 5), 2);
        Check.due("ten of g make a second", slow.angleFor(0, 0, 0), -29);
        Check.due("one of g makes three seconds", slow.angleFor(0, 1, 0), NONE);
        Check.due("one of g makes three seconds", slow.angleFor(0, 1, 1), 1);
    }

    private static void angleForErrors() {
        ShaftPlumb x = Mines.closed(10);
        Check.index(x, "angleFor(-1, 0, 0)", () -> x.angleFor(-1, 0, 0));
        Check.index(x, "angleFor(1, 0, -1)", () -> x.angleFor(1, 0, -1));
        Check.index(x, "angleFor(0, 2, -1)", () -> x.angleFor(0, 2, -1));
        Check.index(x, "angleFor(0, -1, 0)", () -> x.angleFor(0, -1, 0));
        Check.argument(x, "angleFor(0, 0, -1)", () -> x.angleFor(0, 0, -1));
        Check.argument(x, "angleFor(0, 0, 3601)", () -> x.angleFor(0, 0, 3601));
        x.begin(0);
        Check.due("no legs", x.angleFor(1, 0, 3600), NONE);
        x.addLeg(1, 0, 1);
        Check.due("not closed", x.angleFor(1, 0, 3600), NONE);
        Check.due("not closed, another join", x.angleFor(1, 1, 3600), NONE);
        x.still(1);
        Check.due("in trouble 6", x.angleFor(0, 0, 3600), NONE);
        Check.argument(x, "in trouble 6, size 3601", () -> x.angleFor(0, 0, 3601));
    }

    private static void reachBy() {
        ShaftPlumb x = headings(1000, 50000);
        x.addLeg(1, 324000, 1000);
        x.addLeg(1, 972000, 500);
        Check.due("the end of 1 to the east", x.leg(1, 2, 3), 0);
        Check.due("the end of 1 to the north", x.leg(1, 2, 4), 50500);
        Check.due("as near before as behind", x.reachBy(0, 1, 648000, 2000), 49000);
        Check.due("not so far", x.reachBy(0, 1, 648000, 48), 48000);
        Check.due("just so far", x.reachBy(0, 1, 648000, 49), 49000);
        Check.due("one metre", x.reachBy(0, 1, 648000, 1), 1000);
        Check.due("away", x.reachBy(0, 1, 0, 2000), 1000);
        Check.due("from the other end", x.reachBy(1, 0, 0, 2000), 49000);
        Check.due("to its own end", x.reachBy(0, 0, 648000, 2000), 1000);
        x.begin(0);
        Check.due("from trouble 5", x.reachBy(2, 0, 0, 5), NONE);
        Check.due("to trouble 5", x.reachBy(0, 2, 0, 5), NONE);
        x.still(0);
        Check.due("in trouble 6", x.reachBy(0, 1, 0, 5), NONE);
    }

    /** Far to the side, several lengths have the same distance once it is rounded. */
    private static void reachByRounded() {
        ShaftPlumb x = new ShaftPlumb();
        x.hang(-1000000, 0);
        x.hang(1000000, 0);
        Mines.read(x, 0, 1, 1, 1);
        Mines.read(x, 1, 1, 1, 1);
        x.join(0, 1, 0, 1000, 1000, 0);
        x.join(1, 0, 0, 1000, 1000, 0);
        x.begin(0);
        x.begin(1);
        x.addLeg(0, 0, 1000);
        x.addLeg(1, 0, 31000);
        Check.due("the distance two metres off", x.reachBy(0, 1, 648000, 100), 28000);
        x.dropLeg(1);
        x.addLeg(1, 0, 31001);
        Check.due("the distance two metres off and a bit", x.reachBy(0, 1, 648000, 100), 29000);
    }

    /** A forecast for a leg that addLeg() would not take, as the traverse is closed or has 12 legs. */
    private static void reachByFull() {
        ShaftPlumb x = headings(1000, 20000);
        for (int i = 1; i < 12; i++) {
            x.addLeg(0, 648000, 1000);
        }
        Check.due("12 legs", x.reachBy(0, 1, 648000, 2000), 8000);
        x.close(0, 1, 7);
        Check.due("closed", x.reachBy(0, 1, 648000, 2000), 8000);
        ShaftPlumb far = headings(200000, 1);
        for (int i = 1; i < 12; i++) {
            far.addLeg(0, 648000, 200000);
        }
        Check.due("the farthest there is", far.reachBy(1, 0, 648000, 2000), 2000000);
    }

    private static void reachByErrors() {
        ShaftPlumb x = headings(1000, 1000);
        Check.index(x, "reachBy(-1, 0, 0, 1)", () -> x.reachBy(-1, 0, 0, 1));
        Check.index(x, "reachBy(2, 0, -1, 1)", () -> x.reachBy(2, 0, -1, 1));
        Check.index(x, "reachBy(0, 2, 0, 0)", () -> x.reachBy(0, 2, 0, 0));
        Check.index(x, "reachBy(0, -1, 0, 1)", () -> x.reachBy(0, -1, 0, 1));
        Check.argument(x, "angle -1", () -> x.reachBy(0, 1, -1, 1));
        Check.argument(x, "angle 1296000", () -> x.reachBy(0, 1, 1296000, 1));
        Check.argument(x, "most 0", () -> x.reachBy(0, 1, 0, 0));
        Check.argument(x, "most 2001", () -> x.reachBy(0, 1, 0, 2001));
        x.still(0);
        Check.argument(x, "most 2001 in trouble", () -> x.reachBy(0, 1, 0, 2001));
        Check.due("angle 1295999", x.reachBy(0, 1, 1295999, 2000), NONE);
    }
}
