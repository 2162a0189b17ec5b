/** Promises 11 to 18: begin, addLeg, dropLeg, close, adjust, traverse, leg, trouble. */
public final class TraversesTest {
    private static final int NONE = ShaftPlumb.NONE;

    public static void main(String[] args) {
        begin();
        addLeg();
        dropLeg();
        close();
        closeErrors();
        adjust();
        adjustLeft();
        adjustErrors();
        traverseNumbers();
        traverseErrors();
        gaps();
        tolerance();
        misses();
        legs();
        legErrors();
        troubles();
        troubleOfLastJoin();
        Check.end("TraversesTest");
    }

    private static void begin() {
        ShaftPlumb x = Mines.wires();
        Check.index(x, "begin(0) without joins", () -> x.begin(0));
        x.join(0, 1, 0, 100, 100, 0);
        x.join(0, 1, 0, 100, 100, 0);
        Check.index(x, "begin(-1)", () -> x.begin(-1));
        Check.index(x, "begin(2)", () -> x.begin(2));
        for (int i = 0; i < 4; i++) {
            Check.due("begin", x.begin(1), i);
        }
        Check.state(x, "a fifth traverse", () -> x.begin(0));
        Check.index(x, "a fifth traverse at no join", () -> x.begin(2));
        Check.due("its first join", x.traverse(3, 0), 1);
        Check.due("undo of begin", x.undo(), 3);
        Check.due("info(5)", x.info(5), 3);
    }

    private static void beginsEmptyAgain() {
        ShaftPlumb x = Mines.closed(0);
        x.undo();
        x.undo();
        x.undo();
        Check.due("begin again", x.begin(1), 0);
        Check.due("its first join", x.traverse(0, 0), 1);
        Check.due("its legs", x.traverse(0, 1), 0);
        Check.due("its last join", x.traverse(0, 2), NONE);
    }

    private static void addLeg() {
        beginsEmptyAgain();
        ShaftPlumb x = Mines.joins(0);
        Check.index(x, "addLeg without traverses", () -> x.addLeg(0, 0, 1));
        x.begin(0);
        Check.index(x, "addLeg(-1, 0, 1)", () -> x.addLeg(-1, 0, 1));
        Check.index(x, "addLeg(1, -1, 1)", () -> x.addLeg(1, -1, 1));
        Check.argument(x, "angle -1", () -> x.addLeg(0, -1, 1));
        Check.argument(x, "angle 1296000", () -> x.addLeg(0, 1296000, 1));
        Check.argument(x, "length 0", () -> x.addLeg(0, 0, 0));
        Check.argument(x, "length 200001", () -> x.addLeg(0, 0, 200001));
        Check.due("addLeg", x.addLeg(0, 1295999, 200000), 0);
        for (int i = 1; i < 12; i++) {
            Check.due("addLeg", x.addLeg(0, 0, 1), i);
        }
        Check.state(x, "a thirteenth leg", () -> x.addLeg(0, 0, 1));
        Check.argument(x, "a thirteenth leg out of range", () -> x.addLeg(0, 0, 0));
        Check.due("undo of addLeg", x.undo(), 3);
        Check.due("legs behind undo", x.traverse(0, 1), 11);
        x.close(0, 1, 0);
        Check.state(x, "addLeg to a closed traverse", () -> x.addLeg(0, 0, 1));
        Check.argument(x, "addLeg to a closed traverse, out of range", () -> x.addLeg(0, -1, 1));
    }

    private static void dropLeg() {
        ShaftPlumb x = Mines.joins(0);
        Check.index(x, "dropLeg without traverses", () -> x.dropLeg(0));
        x.begin(0);
        Check.index(x, "dropLeg(-1)", () -> x.dropLeg(-1));
        Check.index(x, "dropLeg(1)", () -> x.dropLeg(1));
        Check.state(x, "dropLeg without legs", () -> x.dropLeg(0));
        x.addLeg(0, 1, 10);
        x.addLeg(0, 2, 20);
        x.close(0, 1, 5);
        Check.due("dropLeg", x.dropLeg(0), 1);
        Check.due("last join behind dropLeg", x.traverse(0, 2), NONE);
        Check.due("closing angle behind dropLeg", x.traverse(0, 3), NONE);
        Check.due("the leg that is left", x.leg(0, 0, 1), 10);
        Check.due("addLeg behind dropLeg", x.addLeg(0, 3, 30), 1);
        x.undo();
        Check.due("dropLeg", x.dropLeg(0), 0);
        Check.state(x, "dropLeg of a third", () -> x.dropLeg(0));
        Check.due("undo of dropLeg", x.undo(), 3);
        Check.due("undo of dropLeg", x.undo(), 2);
        Check.due("closed again", x.traverse(0, 2), 1);
        Check.due("closing angle again", x.traverse(0, 3), 5);
    }

    private static void close() {
        ShaftPlumb x = Mines.closed(30);
        Check.due("closed", x.traverse(0, 2), 1);
        Check.due("closing angle", x.traverse(0, 3), 648000);
        Check.due("close anew", x.close(0, 1, 648001), 8);
        Check.due("closing angle", x.traverse(0, 3), 648001);
        x.join(0, 1, 324000, 100, 100, 0);
        Check.due("close on another join", x.close(0, 2, 648000), 0);
        Check.due("last join", x.traverse(0, 2), 2);
        Check.due("undo of close", x.undo(), 3);
        Check.due("last join", x.traverse(0, 2), 1);
        x.set(0, 0);
        x.still(0);
        Check.due("close in trouble", x.close(0, 1, 0), 6);
        Check.due("close with the least angle", x.traverse(0, 3), 0);
        Check.due("close with the greatest angle", x.close(0, 1, 1295999), 6);
    }

    private static void closeErrors() {
        ShaftPlumb x = Mines.joins(0);
        Check.index(x, "close without traverses", () -> x.close(0, 1, 0));
        x.begin(1);
        Check.index(x, "close(-1, 0, 0)", () -> x.close(-1, 0, 0));
        Check.index(x, "close(1, 0, -1)", () -> x.close(1, 0, -1));
        Check.index(x, "close(0, 2, -1)", () -> x.close(0, 2, -1));
        Check.index(x, "close(0, -1, 0)", () -> x.close(0, -1, 0));
        Check.argument(x, "close on the first join without legs", () -> x.close(0, 1, 0));
        Check.argument(x, "close(0, 0, -1)", () -> x.close(0, 0, -1));
        Check.argument(x, "close(0, 0, 1296000)", () -> x.close(0, 0, 1296000));
        Check.state(x, "close without legs", () -> x.close(0, 0, 0));
        x.addLeg(0, 0, 1);
        Check.argument(x, "close on the first join", () -> x.close(0, 1, 0));
        Check.due("close", x.close(0, 0, 648000), 0);
    }

    private static void adjust() {
        ShaftPlumb x = Mines.closed(11);
        Check.due("adjust", x.adjust(0), 11);
        Check.due("angle", x.leg(0, 0, 0), 324000 - 6);
        Check.due("closing angle", x.traverse(0, 3), 648000 - 5);
        Check.due("gap", x.traverse(0, 5), 0);
        Check.due("adjust of no gap", x.adjust(0), 0);
        Check.due("undo", x.undo(), 3);
        Check.due("undo", x.undo(), 2);
        Check.due("angle behind undo", x.leg(0, 0, 0), 324000);
        Check.due("closing angle behind undo", x.traverse(0, 3), 648000);
        ShaftPlumb y = Mines.closed(-11);
        Check.due("adjust", y.adjust(0), -11);
        Check.due("angle", y.leg(0, 0, 0), 324000 + 6);
        Check.due("closing angle", y.traverse(0, 3), 648000 + 5);
        Check.due("gap", y.traverse(0, 5), 0);
    }

    /** A gap over three legs and the closing angle: what is left goes to the longest legs. */
    private static ShaftPlumb adjusted(int gap, int... lengths) {
        ShaftPlumb x = Mines.joins(0);
        x.begin(0);
        for (int length : lengths) {
            x.addLeg(0, 0, length);
        }
        int turned = (lengths.length - 1) * 648000;
        x.close(0, 1, Math.floorMod(gap - turned - 648000, 1296000));
        Check.due("adjust", x.adjust(0), gap);
        Check.due("gap", x.traverse(0, 5), 0);
        return x;
    }

    private static void angles(ShaftPlumb x, int closing, int... wants) {
        for (int i = 0; i < wants.length; i++) {
            Check.due("angle " + i, x.leg(0, i, 0), Math.floorMod(wants[i], 1296000));
        }
        Check.due("closing angle", x.traverse(0, 3), Math.floorMod(closing, 1296000));
    }

    private static void adjustLeft() {
        angles(adjusted(4, 5, 9, 9), -648000 * 3 + 3, -1, -1, -1);
        angles(adjusted(5, 5, 9, 9), -648000 * 3 + 4, -1, -2, -1);
        angles(adjusted(6, 5, 9, 9), -648000 * 3 + 5, -1, -2, -2);
        angles(adjusted(7, 5, 9, 9), -648000 * 3 + 6, -2, -2, -2);
        angles(adjusted(3, 5, 9, 9), -648000 * 3 + 3, -1, -1, -1);
        angles(adjusted(2, 5, 9, 9), -648000 * 3 + 2, 0, -1, -1);
        angles(adjusted(1, 5, 9, 9), -648000 * 3 + 1, 0, -1, 0);
        angles(adjusted(-1, 9, 5, 10), -648000 * 3 - 1, 0, 0, 1);
        angles(adjusted(-2, 9, 5, 10), -648000 * 3 - 2, 1, 0, 1);
        angles(adjusted(-7, 9, 9, 9), -648000 * 3 - 6, 2, 2, 2);
        angles(adjusted(-5, 9, 9, 9), -648000 * 3 - 4, 2, 1, 1);
        angles(adjusted(1, 7), -648000 + 1, -1);
    }

    private static void adjustErrors() {
        ShaftPlumb x = Mines.closed(31);
        Check.index(x, "adjust(-1)", () -> x.adjust(-1));
        Check.index(x, "adjust(1)", () -> x.adjust(1));
        Check.state(x, "adjust in trouble 8", () -> x.adjust(0));
        x.set(1, 31);
        x.still(1);
        Check.state(x, "adjust in trouble 6", () -> x.adjust(0));
        x.undo();
        x.begin(0);
        Check.state(x, "adjust in trouble 5", () -> x.adjust(1));
        x.addLeg(1, 0, 1);
        Check.state(x, "adjust of an open traverse", () -> x.adjust(1));
        Check.due("adjust", x.adjust(0), 31);
    }

    private static void all(ShaftPlumb x, int traverse, int... want) {
        for (int what = 0; what < want.length; what++) {
            Check.due("traverse(" + traverse + ", " + what + ")", x.traverse(traverse, what), want[what]);
        }
    }

    private static void traverseNumbers() {
        ShaftPlumb x = Mines.closed(10);
        all(x, 0, 0, 1, 1, 648000, 0, 10, 1000, 0, 0, 0);
        x.set(1, 9);
        all(x, 0, 0, 1, 1, 648000, 8, 10, 1000, 0, 0, 0);
        x.begin(1);
        all(x, 1, 1, 0, NONE, NONE, 5, NONE, 0, NONE, NONE, NONE);
        x.addLeg(1, 0, 200000);
        x.addLeg(1, 0, 3);
        all(x, 1, 1, 2, NONE, NONE, 0, NONE, 200003, NONE, NONE, NONE);
        x.still(0);
        all(x, 0, 0, 1, 1, 648000, 6, NONE, 1000, NONE, NONE, NONE);
    }

    private static void traverseErrors() {
        ShaftPlumb x = Mines.closed(0);
        Check.argument(x, "traverse(0, -1)", () -> x.traverse(0, -1));
        Check.argument(x, "traverse(0, 10)", () -> x.traverse(0, 10));
        Check.index(x, "traverse(-1, 0)", () -> x.traverse(-1, 0));
        Check.index(x, "traverse(1, 10)", () -> x.traverse(1, 10));
    }

    /** The gap is centred: -648000 to 647999. */
    private static void gaps() {
        ShaftPlumb x = Mines.closed(0);
        Check.due("close", x.close(0, 1, 647999), 0);
        Check.due("gap", x.traverse(0, 5), -1);
        x.close(0, 1, 0);
        Check.due("gap of half a circle", x.traverse(0, 5), -648000);
        x.close(0, 1, 1295999);
        Check.due("gap of a second less", x.traverse(0, 5), 647999);
        x.close(0, 1, 1);
        Check.due("gap of a second more", x.traverse(0, 5), -647999);
        x.measure(0, 5);
        Check.due("gap with a turned first join", x.traverse(0, 5), -647994);
        x.measure(1, 7);
        Check.due("gap with a turned last join", x.traverse(0, 5), 647999);
    }

    private static void tolerance() {
        int[] legs = {1, 2, 3, 7, 8, 12};
        int[] roots = {1, 1, 2, 2, 3, 3};
        for (int i = 0; i < legs.length; i++) {
            ShaftPlumb x = Mines.joins(0);
            x.begin(0);
            for (int leg = 0; leg < legs[i]; leg++) {
                x.addLeg(0, 648000, 10);
            }
            // All legs have the bearing 648000, so the gap is the closing angle, centred.
            int most = 30 * roots[i];
            Check.due("close at the tolerance", x.close(0, 1, most), 0);
            Check.due("gap", x.traverse(0, 5), most);
            Check.due("close past the tolerance", x.close(0, 1, most + 1), 8);
            Check.due("close at the tolerance below 0", x.close(0, 1, 1296000 - most), 0);
            Check.due("gap", x.traverse(0, 5), -most);
            Check.due("close past the tolerance below 0", x.close(0, 1, 1296000 - most - 1), 8);
        }
    }

    private static void misses() {
        ShaftPlumb x = Mines.joins(0);
        x.begin(0);
        x.addLeg(0, 0, 400);
        x.addLeg(0, 972000, 1300);
        x.close(0, 1, 0);
        Check.due("bearing to the east", x.leg(0, 1, 2), 324000);
        Check.due("miss to the east", x.traverse(0, 7), 300);
        Check.due("miss to the north", x.traverse(0, 8), 400);
        Check.due("the miss", x.traverse(0, 9), 500);
        x.hang(1, 1);
        Mines.read(x, 2, 100, 100, 100);
        x.join(2, 1, 0, 1000, 1000, 0);
        x.close(0, 2, 0);
        Check.due("miss to the east", x.traverse(0, 7), 1299);
        Check.due("miss to the north", x.traverse(0, 8), 399);
        Check.due("the miss", x.traverse(0, 9), 1358);
    }

    private static void legs() {
        ShaftPlumb x = new ShaftPlumb();
        x.hang(-500, 700);
        x.hang(0, 0);
        Mines.read(x, 0, 1, 1, 1);
        Mines.read(x, 1, 1, 1, 1);
        x.join(0, 1, 100000, 1000, 1000, 2000);
        x.begin(0);
        x.addLeg(0, 6000, 999);
        x.addLeg(0, 1200000, 20001);
        int[] first = {6000, 999, 108000, -500 + 499, 700 + sized(999, 8648)};
        int[] second = {1200000, 20001, 660000, -1 + sized(20001, -590), first[4] + sized(20001, -9982)};
        for (int what = 0; what < 5; what++) {
            Check.due("leg(0, 0, " + what + ")", x.leg(0, 0, what), first[what]);
            Check.due("leg(0, 1, " + what + ")", x.leg(0, 1, what), second[what]);
        }
        Check.due("cosine of 108000", x.sine(432000), 8648);
        Check.due("sine of 660000", x.sine(660000), -590);
        Check.due("cosine of 660000", x.sine(984000), -9982);
        x.still(1);
        int[] troubled = {1200000, 20001, NONE, NONE, NONE};
        for (int what = 0; what < 5; what++) {
            Check.due("in trouble, leg(0, 1, " + what + ")", x.leg(0, 1, what), troubled[what]);
        }
    }

    private static int sized(int length, int ratio) {
        return (int) ((long) length * ratio / 10000);
    }

    private static void legErrors() {
        ShaftPlumb x = Mines.closed(0);
        Check.index(x, "leg(-1, 0, 0)", () -> x.leg(-1, 0, 0));
        Check.index(x, "leg(1, 0, 5)", () -> x.leg(1, 0, 5));
        Check.index(x, "leg(0, -1, 5)", () -> x.leg(0, -1, 5));
        Check.index(x, "leg(0, 1, 0)", () -> x.leg(0, 1, 0));
        Check.argument(x, "leg(0, 0, -1)", () -> x.leg(0, 0, -1));
        Check.argument(x, "leg(0, 0, 5)", () -> x.leg(0, 0, 5));
        x.set(0, 0);
        x.measure(1, 3600);
        Check.due("leg in trouble 8", x.leg(0, 0, 2), 324000);
    }

    private static void chain(ShaftPlumb x, int... want) {
        Check.due("trouble(0, -1)", x.trouble(0, -1), NONE);
        for (int level = 0; level < 5; level++) {
            Check.due("trouble(0, " + level + ")", x.trouble(0, level), level < want.length ? want[level] : NONE);
        }
        Check.due("trouble(0, MAX)", x.trouble(0, Integer.MAX_VALUE), NONE);
    }

    private static void troubles() {
        ShaftPlumb x = Mines.joins(0);
        Check.index(x, "trouble(0, 0) without traverses", () -> x.trouble(0, 0));
        x.begin(0);
        Check.index(x, "trouble(-1, -1)", () -> x.trouble(-1, -1));
        Check.index(x, "trouble(1, 0)", () -> x.trouble(1, 0));
        chain(x, 5);
        x.still(0);
        chain(x, 5);
        x.addLeg(0, 0, 1);
        chain(x, 6, 3, 1);
        Mines.read(x, 0, 100, 100, 121);
        chain(x, 6, 3, 2);
        x.still(1);
        chain(x, 6, 3, 2);
        x.set(0, 21);
        chain(x, 6, 3, 1);
        Mines.read(x, 1, 105, 105, 105);
        chain(x);
        x.join(0, 1, 0, 100, 301, 0);
        x.begin(2);
        x.addLeg(1, 0, 1);
        Check.due("trouble(1, 0)", x.trouble(1, 0), 6);
        Check.due("trouble(1, 1)", x.trouble(1, 1), 4);
        Check.due("trouble(1, 2)", x.trouble(1, 2), NONE);
        x.close(0, 1, 0);
        chain(x, 8);
    }

    private static void troubleOfLastJoin() {
        ShaftPlumb x = Mines.wires();
        x.hang(5, 5);
        x.hang(6, 6);
        x.join(0, 1, 0, 100, 100, 0);
        x.join(2, 3, 0, 100, 100, 0);
        x.join(0, 1, 0, 100, 400, 0);
        x.begin(0);
        x.addLeg(0, 0, 1);
        Check.due("close", x.close(0, 1, 0), 7);
        chain(x, 7, 3, 1);
        Mines.read(x, 2, 0, 0, 100);
        chain(x, 7, 3, 2);
        all(x, 0, 0, 1, 1, 0, 7, NONE, 1, NONE, NONE, NONE);
        Check.state(x, "adjust in trouble 7", () -> x.adjust(0));
        Check.due("leg in trouble 7", x.leg(0, 0, 4), 1);
        Check.due("apart in trouble 7", x.apart(0, 0), 0);
        Check.due("suspect in trouble 7", x.suspect(0), NONE);
        Check.due("angleFor in trouble 7", x.angleFor(0, 0, 3600), NONE);
        Check.due("reachBy in trouble 7", x.reachBy(0, 0, 0, 5), 1000);
        Check.due("close", x.close(0, 2, 0), 7);
        chain(x, 7, 4);
        x.still(0);
        chain(x, 6, 3, 1);
    }
}
