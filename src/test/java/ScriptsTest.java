/** Promises 25 to 30: type, clearText, fault, run, undo, checksum. */
public final class ScriptsTest {
    private static final int NONE = ShaftPlumb.NONE;

    public static void main(String[] args) {
        type();
        clearText();
        faults();
        faultOfLongText();
        run();
        runSkips();
        runCopies();
        runErrors();
        undo();
        undoOfEach();
        checksum();
        checksumOfCopies();
        Check.end("ScriptsTest");
    }

    private static void type() {
        ShaftPlumb x = new ShaftPlumb();
        Check.argument(x, "type(31)", () -> x.type(31));
        Check.argument(x, "type(127)", () -> x.type(127));
        Check.argument(x, "type(-1)", () -> x.type(-1));
        Check.argument(x, "type(65536 + 107)", () -> x.type(65536 + 107));
        Check.due("type(32)", x.type(32), 1);
        Check.due("type(126)", x.type(126), 2);
        for (int i = 3; i <= 90; i++) {
            Check.due("type", x.type('k'), i);
        }
        Check.state(x, "type a 91st", () -> x.type('k'));
        Check.argument(x, "type a 91st out of range", () -> x.type(31));
        Check.state(x, "typing makes no copy", () -> x.undo());
    }

    private static void clearText() {
        ShaftPlumb x = new ShaftPlumb();
        Check.due("clearText", x.clearText(), 0);
        Mines.type(x, "k0;k");
        Check.due("clearText", x.clearText(), 4);
        Check.due("clearText", x.clearText(), 0);
        Check.due("fault", x.fault(), NONE);
        Check.due("type", x.type('k'), 1);
        Check.due("fault of the new text", x.fault(), 1);
        Check.state(x, "clearText makes no copy", () -> x.undo());
    }

    private static void fault(String text, int want) {
        ShaftPlumb x = new ShaftPlumb();
        Mines.type(x, text);
        Check.due("fault of \"" + text + "\"", x.fault(), want);
    }

    private static void faults() {
        fault("", NONE);
        fault("k0;", NONE);
        fault("a9999999;", NONE);
        fault("t0,0;", NONE);
        fault("l0,0000000,1;", NONE);
        fault("k0;a1;t2,3;l4,5,6;k7;", NONE);
        fault("k", 1);
        fault("k0", 2);
        fault("t", 1);
        fault("t0,", 3);
        fault("t0,1", 4);
        fault("l0,1,", 5);
        fault("k0;k", 4);
        fault("k;", 1);
        fault("k,", 1);
        fault("t,1;", 1);
        fault("t0;", 2);
        fault("t0,;", 3);
        fault("t0,1,", 4);
        fault("l0,1;", 4);
        fault("l0,1,2,", 6);
        fault("k0,", 2);
        fault("a0,", 2);
        fault("k0;;", 3);
        fault(";", 0);
        fault("0", 0);
        fault("x0;", 0);
        fault("T0,1;", 0);
        fault(" k0;", 0);
        fault("k 0;", 1);
        fault("k0 ;", 2);
        fault("k0; ", 3);
        fault("k-1;", 1);
        fault("k+1;", 1);
        fault("k00000000;", 8);
        fault("t12345678,1;", 8);
        fault("t1,12345678", 10);
        fault("l0,0,12345678;", 12);
        fault("k1/;", 2);
        fault("k1:;", 2);
        fault("kk;", 1);
    }

    private static void faultOfLongText() {
        ShaftPlumb x = new ShaftPlumb();
        for (int i = 0; i < 30; i++) {
            Mines.type(x, "k0;");
        }
        Check.due("fault of 90 characters", x.fault(), NONE);
        Check.due("run of 30 commands", x.run(), 0);
        x.clearText();
        for (int i = 0; i < 29; i++) {
            Mines.type(x, "k0;");
        }
        Mines.type(x, "t1,");
        Check.due("fault of 90 characters that end too early", x.fault(), 90);
    }

    private static void run() {
        ShaftPlumb x = Mines.joins(0);
        x.begin(0);
        x.begin(0);
        Mines.type(x, "t1,100;l1,1295999,200000;l1,0,7;k1;l0,0000005,0000006;");
        Check.due("run", x.run(), 5);
        Check.due("the text stays", x.fault(), NONE);
        Check.due("turning points", x.wire(1, 2), 4);
        Check.due("legs", x.traverse(1, 1), 1);
        Check.due("angle", x.leg(1, 0, 0), 1295999);
        Check.due("length", x.leg(1, 0, 1), 200000);
        Check.due("angle", x.leg(0, 0, 0), 5);
        Check.due("length", x.leg(0, 0, 1), 6);
        Check.due("run again", x.run(), 5);
        Check.due("legs", x.traverse(0, 1), 2);
        ShaftPlumb y = Mines.closed(11);
        Mines.type(y, "a0;");
        Check.due("run of an adjustment", y.run(), 1);
        Check.due("angle", y.leg(0, 0, 0), 324000 - 6);
        Check.due("gap", y.traverse(0, 5), 0);
        y.clearText();
        Mines.type(y, "k0;l0,1,2;");
        Check.due("run that opens a traverse", y.run(), 2);
        Check.due("not closed", y.traverse(0, 2), NONE);
    }

    private static void skipped(ShaftPlumb x, String text, int want) {
        x.clearText();
        Mines.type(x, text);
        Check.due("run of \"" + text + "\"", x.run(), want);
    }

    private static void runSkips() {
        ShaftPlumb x = Mines.closed(31);
        skipped(x, "", 0);
        skipped(x, "t2,0;t9999999,0;t0,1000;t0,9999999;", 0);
        skipped(x, "l0,0,1;l1,0,1;a0;a1;k1;", 0);
        Check.due("legs", x.traverse(0, 1), 1);
        skipped(x, "k0;k0;l0,1296000,1;l0,0,0;l0,0,200001;l0,0,200000;a0;", 2);
        skipped(x, "t0,1;t0,2;t0,3;t0,4;t0,5;t0,6;t0,7;t0,8;", 6);
        Check.due("turning points", x.wire(0, 2), 9);
        Check.due("a leg", x.leg(0, 0, 1), 200000);
        ShaftPlumb y = Mines.closed(31);
        y.hang(0, 0);
        skipped(y, "t2,1;t2,1;t2,1;a0;", 3);
        Check.due("rest", y.wire(2, 3), 1);
        ShaftPlumb z = Mines.closed(20);
        skipped(z, "t1,150;a0;", 1);
        z.undo();
        skipped(z, "a0;t1,150;a0;", 2);
        Check.due("angle", z.leg(0, 0, 0), 324000 - 10);
    }

    private static void runCopies() {
        ShaftPlumb x = new ShaftPlumb();
        x.hang(0, 0);
        Mines.type(x, "t0,1;t0,2;t0,3;");
        Check.due("run", x.run(), 3);
        Check.due("undo of run", x.undo(), 1);
        Check.due("turning points", x.wire(0, 2), 0);
        Check.due("the text stays", x.fault(), NONE);
        Check.due("run", x.run(), 3);
        x.clearText();
        Mines.type(x, "k0;");
        Check.due("run, all skipped", x.run(), 0);
        Check.due("undo of run", x.undo(), 2);
        Check.due("turning points", x.wire(0, 2), 3);
        x.clearText();
        Check.due("run of nothing", x.run(), 0);
        Check.due("undo of run", x.undo(), 2);
        Check.due("undo of run", x.undo(), 1);
        Check.due("turning points", x.wire(0, 2), 0);
    }

    private static void runErrors() {
        ShaftPlumb x = new ShaftPlumb();
        x.hang(0, 0);
        Mines.type(x, "t0,1;t0,2");
        Check.argument(x, "run of a text that ends too early", () -> x.run());
        Check.due("turning points", x.wire(0, 2), 0);
        x.type(' ');
        Check.argument(x, "run of a text with a fault", () -> x.run());
        Check.due("fault", x.fault(), 9);
        Check.due("undo of hang", x.undo(), 0);
    }

    private static void undo() {
        ShaftPlumb x = new ShaftPlumb();
        Check.state(x, "undo of nothing", () -> x.undo());
        for (int i = 1; i <= 6; i++) {
            x.set(0, i);
        }
        for (int i = 3; i >= 0; i--) {
            Check.due("undo", x.undo(), i);
            Check.due("the drift", x.info(0), i + 2);
        }
        Check.state(x, "undo of a fifth", () -> x.undo());
        x.set(0, 7);
        x.set(0, 8);
        Check.due("undo", x.undo(), 1);
        x.set(0, 9);
        Check.due("undo", x.undo(), 1);
        Check.due("the drift", x.info(0), 7);
        Check.due("undo", x.undo(), 0);
        Check.due("the drift", x.info(0), 2);
        Mines.type(x, "k0;");
        x.set(1, 5);
        x.clearText();
        Mines.type(x, "a");
        x.undo();
        Check.due("the text is not undone", x.fault(), 1);
    }

    /** Each undoable call keeps one copy, and undo brings all back; the other calls keep none. */
    private static void undoOfEach() {
        undoes("set", x -> x.set(1, 500));
        undoes("hang", x -> x.hang(3, 4));
        undoes("swing", x -> x.swing(0, 120));
        undoes("still", x -> x.still(0));
        undoes("join", x -> x.join(0, 1, 0, 100, 100, 0));
        undoes("measure", x -> x.measure(0, 55));
        undoes("begin", x -> x.begin(1));
        undoes("addLeg", x -> x.addLeg(1, 5, 5));
        undoes("dropLeg", x -> x.dropLeg(0));
        undoes("close", x -> x.close(0, 1, 648002));
        undoes("adjust", x -> x.adjust(0));
        undoes("run", x -> x.run());
        ShaftPlumb x = ready();
        long before = x.checksum();
        x.info(0);
        x.wire(0, 0);
        x.joinOf(0, 0);
        x.traverse(0, 0);
        x.leg(0, 0, 0);
        x.trouble(0, 0);
        x.apart(0, 1);
        x.meets(0, 1);
        x.sine(0);
        x.suspect(0);
        x.angleFor(0, 0, 0);
        x.reachBy(0, 1, 0, 1);
        x.fault();
        x.checksum();
        Check.due("the checksum behind calls that only look", x.checksum(), before);
    }

    private interface Change {
        long on(ShaftPlumb x);
    }

    private static ShaftPlumb ready() {
        ShaftPlumb x = Mines.closed(20);
        x.begin(0);
        Mines.type(x, "a0;t0,99;l1,7,7;");
        for (int i = 0; i < 3; i++) {
            x.set(2, 400 + i);
        }
        x.undo();
        x.undo();
        return x;
    }

    private static void undoes(String call, Change change) {
        ShaftPlumb x = ready();
        long before = x.checksum();
        change.on(x);
        Check.due(call + " changes something", x.checksum() != before, true);
        x.undo();
        Check.due("the checksum behind undo of " + call, x.checksum(), before);
    }

    private static void checksum() {
        Check.due("checksum of a new object", new ShaftPlumb().checksum(), expected(new ShaftPlumb(), 0, 0));
        ShaftPlumb x = Mines.closed(20);
        Check.due("checksum", x.checksum(), expected(x, 0, 4));
        x.begin(1);
        x.addLeg(1, 77777, 190000);
        x.addLeg(1, 577777, 188888);
        Mines.type(x, "k0;  ");
        Check.due("checksum", x.checksum(), expected(x, 5, 4));
        x.close(1, 0, 1000000);
        x.undo();
        Check.due("checksum", x.checksum(), expected(x, 5, 3));
        x.close(1, 0, 1000000);
        Check.due("checksum", x.checksum(), expected(x, 5, 4));
        x.still(0);
        Check.due("checksum", x.checksum(), expected(x, 5, 4));
        x.undo();
        x.undo();
        Check.due("checksum", x.checksum(), expected(x, 5, 2));
    }

    private static void checksumOfCopies() {
        ShaftPlumb x = new ShaftPlumb();
        long one = x.checksum();
        x.set(0, 20);
        Check.due("one copy more", x.checksum(), one + 1);
        x.type('k');
        Check.due("one character more", x.checksum(), one + 1 + 31);
    }

    private static long expected(ShaftPlumb x, int length, int copies) {
        long h = 12946;
        for (int what = 0; what <= 7; what++) {
            h = 31 * h + x.info(what);
        }
        for (int wire = 0; wire < x.info(3); wire++) {
            for (int what = 0; what <= 5; what++) {
                h = 31 * h + x.wire(wire, what);
            }
        }
        for (int join = 0; join < x.info(4); join++) {
            for (int what = 0; what <= 7; what++) {
                h = 31 * h + x.joinOf(join, what);
            }
        }
        for (int traverse = 0; traverse < x.info(5); traverse++) {
            h = expectedOfTraverse(x, traverse, h);
        }
        return 31 * (31 * h + length) + copies;
    }

    private static long expectedOfTraverse(ShaftPlumb x, int traverse, long before) {
        long h = before;
        for (int what = 0; what <= 9; what++) {
            h = 31 * h + x.traverse(traverse, what);
        }
        for (int leg = 0; leg < x.traverse(traverse, 1); leg++) {
            for (int what = 0; what <= 4; what++) {
                h = 31 * h + x.leg(traverse, leg, what);
            }
        }
        h = 31 * h + x.suspect(traverse);
        for (int level = 0; level <= 2; level++) {
            h = 31 * h + x.trouble(traverse, level);
        }
        return h;
    }
}
