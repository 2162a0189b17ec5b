/** Promises 1 to 7: a new object, set, info, hang, swing, still, wire. */
public final class WiresTest {
    public static void main(String[] args) {
        newObject();
        set();
        info();
        hang();
        swing();
        still();
        wireNumbers();
        wireTroubles();
        wireRests();
        Check.end("WiresTest");
    }

    private static void newObject() {
        ShaftPlumb x = new ShaftPlumb();
        int[] want = {20, 30, 500, 0, 0, 0, 0, 0};
        for (int what = 0; what < want.length; what++) {
            Check.due("new: info(" + what + ")", x.info(what), want[what]);
        }
        Check.due("new: clearText()", x.clearText(), 0);
        Check.due("new: fault()", x.fault(), ShaftPlumb.NONE);
        Check.state(x, "new: undo()", () -> x.undo());
        Check.index(x, "new: wire(0, 0)", () -> x.wire(0, 0));
        Check.index(x, "new: joinOf(0, 0)", () -> x.joinOf(0, 0));
        Check.index(x, "new: traverse(0, 0)", () -> x.traverse(0, 0));
        Check.due("NONE", ShaftPlumb.NONE, -2000000000);
    }

    private static void set() {
        ShaftPlumb x = new ShaftPlumb();
        int[] first = {20, 30, 500};
        int[] least = {0, 1, 0};
        int[] most = {999, 600, 999999};
        for (int i = 0; i < 3; i++) {
            int what = i;
            Check.due("set least", x.set(what, least[i]), first[i]);
            Check.due("info of least", x.info(what), least[i]);
            Check.due("set most", x.set(what, most[i]), least[i]);
            Check.due("info of most", x.info(what), most[i]);
            Check.argument(x, "set below", () -> x.set(what, least[what] - 1));
            Check.argument(x, "set above", () -> x.set(what, most[what] + 1));
            Check.argument(x, "set far below", () -> x.set(what, Integer.MIN_VALUE));
            Check.argument(x, "set far above", () -> x.set(what, Integer.MAX_VALUE));
        }
        Check.argument(x, "set(-1, 5)", () -> x.set(-1, 5));
        Check.argument(x, "set(3, 5)", () -> x.set(3, 5));
        Check.due("undo of set", x.undo(), 3);
        Check.due("info after undo", x.info(2), 0);
        Check.due("undo of set", x.undo(), 2);
        Check.due("info after undo", x.info(2), 500);
        ShaftPlumb same = new ShaftPlumb();
        Check.due("set what is set", same.set(1, 30), 30);
        Check.due("undo of a change of nothing", same.undo(), 0);
    }

    private static void info() {
        ShaftPlumb x = Mines.joins(0);
        x.begin(0);
        x.begin(1);
        x.begin(1);
        x.addLeg(0, 0, 5);
        x.addLeg(2, 0, 5);
        x.addLeg(2, 0, 5);
        x.swing(1, 7);
        x.hang(5, 5);
        Check.due("info(3)", x.info(3), 3);
        Check.due("info(4)", x.info(4), 2);
        Check.due("info(5)", x.info(5), 3);
        Check.due("info(6)", x.info(6), 3);
        Check.due("info(7)", x.info(7), 7);
        Check.argument(x, "info(-1)", () -> x.info(-1));
        Check.argument(x, "info(8)", () -> x.info(8));
        x.dropLeg(2);
        Check.due("info(6) behind dropLeg", x.info(6), 2);
        x.still(0);
        Check.due("info(7) behind still", x.info(7), 4);
    }

    private static void hang() {
        ShaftPlumb x = new ShaftPlumb();
        Check.argument(x, "hang(-1000001, 0)", () -> x.hang(-1000001, 0));
        Check.argument(x, "hang(1000001, 0)", () -> x.hang(1000001, 0));
        Check.argument(x, "hang(0, -1000001)", () -> x.hang(0, -1000001));
        Check.argument(x, "hang(0, 1000001)", () -> x.hang(0, 1000001));
        Check.due("hang", x.hang(-1000000, 1000000), 0);
        Check.due("hang", x.hang(1000000, -1000000), 1);
        Check.due("its easting", x.wire(1, 0), 1000000);
        Check.due("its northing", x.wire(1, 1), -1000000);
        for (int i = 2; i < 6; i++) {
            Check.due("hang", x.hang(i, -i), i);
        }
        Check.due("info(3)", x.info(3), 6);
        Check.state(x, "hang a seventh", () -> x.hang(0, 0));
        Check.argument(x, "hang a seventh out of range", () -> x.hang(0, 1000001));
        x.swing(5, 9);
        x.undo();
        Check.due("undo of hang", x.undo(), 2);
        Check.index(x, "wire(5, 0) behind undo", () -> x.wire(5, 0));
        Check.due("hang again", x.hang(77, 78), 5);
        Check.due("its easting", x.wire(5, 0), 77);
        Check.due("its turning points", x.wire(5, 2), 0);
        Check.due("its trouble", x.wire(5, 4), 1);
    }

    private static void swing() {
        ShaftPlumb x = new ShaftPlumb();
        Check.index(x, "swing(0, 5) without wires", () -> x.swing(0, 5));
        x.hang(0, 0);
        x.hang(0, 0);
        Check.index(x, "swing(-1, 5)", () -> x.swing(-1, 5));
        Check.index(x, "swing(2, 5)", () -> x.swing(2, 5));
        Check.index(x, "swing(2, -1)", () -> x.swing(2, -1));
        Check.argument(x, "swing(1, -1)", () -> x.swing(1, -1));
        Check.argument(x, "swing(1, 1000)", () -> x.swing(1, 1000));
        for (int i = 1; i <= 9; i++) {
            Check.due("swing", x.swing(1, i % 2 == 0 ? 0 : 999), i);
        }
        Check.due("the turning points of 1", x.wire(1, 2), 9);
        Check.due("the turning points of 0", x.wire(0, 2), 0);
        Check.state(x, "swing a tenth", () -> x.swing(1, 5));
        Check.argument(x, "swing a tenth out of range", () -> x.swing(1, 1000));
        Check.due("undo of swing", x.undo(), 3);
        Check.due("the turning points", x.wire(1, 2), 8);
    }

    private static void still() {
        ShaftPlumb x = new ShaftPlumb();
        Check.index(x, "still(0) without wires", () -> x.still(0));
        x.hang(0, 0);
        x.hang(0, 0);
        Mines.read(x, 0, 1, 2, 3, 4);
        Check.index(x, "still(-1)", () -> x.still(-1));
        Check.index(x, "still(2)", () -> x.still(2));
        Check.due("still of none", x.still(1), 0);
        Check.due("still", x.still(0), 4);
        Check.due("turning points behind still", x.wire(0, 2), 0);
        Check.due("trouble behind still", x.wire(0, 4), 1);
        Check.due("undo of still", x.undo(), 3);
        Check.due("rest behind undo", x.wire(0, 3), 2);
        x.undo();
        x.still(0);
        Mines.read(x, 0, 10, 20, 12);
        Check.due("rest of new turning points", x.wire(0, 3), 15);
    }

    private static void wireNumbers() {
        ShaftPlumb x = new ShaftPlumb();
        Check.index(x, "wire(0, 9)", () -> x.wire(0, 9));
        x.hang(12, -34);
        Mines.read(x, 0, 100, 200);
        int[] want = {12, -34, 2, ShaftPlumb.NONE, 1, 0};
        for (int what = 0; what < want.length; what++) {
            Check.due("wire(0, " + what + ")", x.wire(0, what), want[what]);
        }
        Check.argument(x, "wire(0, -1)", () -> x.wire(0, -1));
        Check.argument(x, "wire(0, 6)", () -> x.wire(0, 6));
        Check.index(x, "wire(-1, 0)", () -> x.wire(-1, 0));
        Check.index(x, "wire(1, 6)", () -> x.wire(1, 6));
    }

    private static void wireTroubles() {
        ShaftPlumb x = new ShaftPlumb();
        x.hang(0, 0);
        Mines.read(x, 0, 500, 100, 480);
        Check.due("a difference as great as the drift", x.wire(0, 4), 0);
        Check.due("the difference", x.wire(0, 5), 20);
        x.set(0, 19);
        Check.due("a difference greater than the drift", x.wire(0, 4), 2);
        Check.due("the rest of a wire in trouble 2", x.wire(0, 3), 295);
        x.set(0, 20);
        x.swing(0, 121);
        Check.due("two behind the first", x.wire(0, 4), 2);
        Check.due("the greatest difference", x.wire(0, 5), 21);
        x.swing(0, 481);
        Check.due("the greatest difference is not the last one", x.wire(0, 5), 21);
        x.set(0, 0);
        x.still(0);
        Mines.read(x, 0, 0, 999);
        Check.due("trouble with two turning points", x.wire(0, 4), 1);
        x.swing(0, 0);
        Check.due("no drift at all", x.wire(0, 4), 0);
        x.swing(0, 0);
        Check.due("the greatest difference there is", x.wire(0, 5), 999);
        x.set(0, 999);
        Check.due("as great as the drift", x.wire(0, 4), 0);
    }

    private static void wireRests() {
        ShaftPlumb x = new ShaftPlumb();
        x.hang(0, 0);
        Mines.read(x, 0, 1, 2, 4);
        Check.due("rest of 1 2 4", x.wire(0, 3), 2);
        x.swing(0, 4);
        Check.due("rest of 1 2 4 4", x.wire(0, 3), 17 / 6);
        x.swing(0, 7);
        Check.due("rest of 1 2 4 4 7", x.wire(0, 3), 28 / 8);
        Mines.read(x, 0, 999, 999, 999, 999);
        Check.due("rest of nine", x.wire(0, 3), (1 + 999 + 2 * (2 + 4 + 4 + 7 + 3 * 999)) / 16);
    }
}
