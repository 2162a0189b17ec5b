/** Promises 25 to 28: type, clearText, fault, run. */
public final class ScriptsTest {
    private static final int NONE = ShaftPlumb.NONE;

    public static void main(String[] args) {
        typeTakesCodes();
        typeTakesNinety();
        typeOrder();
        typeKeepsNoCopy();
        clearTextTellsLength();
        clearTextMakesRoom();
        clearTextKeepsNoCopy();
        faultOfScripts();
        faultOfEachPlace();
        faultOfDigits();
        faultOfEarlyEnd();
        faultOfLongestText();
        faultOfOtherCommands();
        faultLooks();
        runOfFault();
        runOfNothing();
        runCarriesOut();
        runOfLongestText();
        runOfNumbers();
        runSkipsTurns();
        runSkipsLegs();
        runSkipsDrops();
        runSkipsAdjustments();
        runGoesOnBehindSkipped();
        runInOrder();
        runForgetsClearedText();
        runLeavesText();
        runKeepsOneCopy();
        Check.end("ScriptsTest");
    }

    private static String repeated(String text, int times) {
        return text.repeat(times);
    }

    private static ShaftPlumb fullText() {
        return Mines.typed(repeated("k0;", 30));
    }

    // ---- Promise 25

    private static void typeTakesCodes() {
        Check.sentence("Promise 25: a code is 32 to 126");
        Check.range(Check.ARGUMENT, ShaftPlumb::new, 32, 126, (x, c) -> x.type(c));
        Check.argument(ShaftPlumb::new, x -> x.type(0));
        Check.argument(ShaftPlumb::new, x -> x.type(65536 + 'k'));
        Check.argument(ShaftPlumb::new, x -> x.type(256 + 'k'));
    }

    private static void typeTakesNinety() {
        Check.sentence("Promise 25: at most 90 characters");
        ShaftPlumb x = new ShaftPlumb();
        for (int i = 1; i <= 90; i++) {
            Check.due(x.type(31 + i), i);
        }
        Check.state(ScriptsTest::fullText, mine -> mine.type('k'));
        Check.state(() -> Mines.typed(repeated(" ", 90)), mine -> mine.type(126));
        Check.due(Mines.typed(repeated(" ", 89)).type(126), 90);
    }

    private static void typeOrder() {
        Check.sentence("Promise 25: out of range comes before 90 characters");
        Check.argument(ScriptsTest::fullText, x -> x.type(31));
        Check.argument(ScriptsTest::fullText, x -> x.type(127));
    }

    private static void typeKeepsNoCopy() {
        Check.sentence("Promise 25: not undoable, a text is no change");
        Check.state(() -> Mines.typed("k"), x -> x.undo());
        ShaftPlumb x = Mines.closed();
        x.type('k');
        Check.due(x.undo(), 3);
        Check.due(x.clearText(), 1);
    }

    // ---- Promise 26

    private static void clearTextTellsLength() {
        Check.sentence("Promise 26: returns the length that it had");
        Check.due(new ShaftPlumb().clearText(), 0);
        Check.due(Mines.typed("k").clearText(), 1);
        Check.due(fullText().clearText(), 90);
        ShaftPlumb x = Mines.typed("k0;k");
        Check.due(x.clearText(), 4);
        Check.due(x.clearText(), 0);
    }

    private static void clearTextMakesRoom() {
        Check.sentence("Promise 26: the text is empty then, and takes 90 other characters");
        ShaftPlumb x = fullText();
        x.clearText();
        Check.due(x.fault(), NONE);
        for (int i = 1; i <= 90; i++) {
            Check.due(x.type('x'), i);
        }
        Check.due(x.fault(), 0);
        x.clearText();
        Mines.type(x, "k");
        Check.due(x.fault(), 1);
    }

    private static void clearTextKeepsNoCopy() {
        Check.sentence("Promise 26: not undoable, undo does not bring the text back");
        ShaftPlumb empty = Mines.typed("k0;");
        empty.clearText();
        Check.due(Check.copiesOf(empty), 0);
        ShaftPlumb x = Mines.wires();
        Mines.type(x, "k0;");
        x.set(0, 5);
        x.clearText();
        Check.due(x.undo(), 3);
        Check.due(x.clearText(), 0);
    }

    // ---- Promise 27

    private static void fault(String text, int want) {
        Check.due(Mines.typed(text).fault(), want);
    }

    private static void faultOfScripts() {
        Check.sentence("Promise 27: NONE if the text is a script, perhaps without commands");
        fault("", NONE);
        fault("k0;", NONE);
        fault("a0;", NONE);
        fault("t0,1;", NONE);
        fault("l0,1,2;", NONE);
        fault("k0;a1;t2,3;l4,5,6;k7;", NONE);
        fault("l9999999,9999999,9999999;", NONE);
    }

    /** Behind a start that is allowed, just these characters are. */
    private static void allowed(String start, String signs) {
        for (char sign = 32; sign <= 126; sign++) {
            ShaftPlumb x = Mines.typed(start);
            x.type(sign);
            boolean ends = sign == ';' && signs.indexOf(';') >= 0;
            int length = start.length();
            Check.due(x.fault(), signs.indexOf(sign) < 0 ? length : ends ? NONE : length + 1);
        }
    }

    private static void faultOfEachPlace() {
        Check.sentence("Promise 27: the index of the first character that is not allowed at its place");
        String digits = "0123456789";
        allowed("", "tlka");
        allowed("k0;", "tlka");
        allowed("l0,1,2;", "tlka");
        for (String start : new String[] {"t", "l", "k", "a", "t0,", "l0,", "l0,1,", "k0;a"}) {
            allowed(start, digits);
        }
        allowed("t0", digits + ",");
        allowed("l0", digits + ",");
        allowed("l0,1", digits + ",");
        allowed("k0", digits + ";");
        allowed("a00", digits + ";");
        allowed("t0,1", digits + ";");
        allowed("l0,1,2", digits + ";");
    }

    private static void faultOfDigits() {
        Check.sentence("Promise 27: a number has 1 to 7 digits, an eighth is not allowed");
        allowed("k123456", "0123456789;");
        allowed("k1234567", ";");
        allowed("t1234567", ",");
        allowed("t1,0000000", ";");
        allowed("l1234567", ",");
        allowed("l1,1234567", ",");
        allowed("l1,1,1234567", ";");
        fault("k00000000;", 8);
        fault("t0000000,0000000;", NONE);
        fault("t1234567,12345678;", 16);
    }

    private static void faultOfEarlyEnd() {
        Check.sentence("Promise 27: the length of the text if it ends too early");
        for (String script : new String[] {"k1234567;", "a5;", "t12,345;", "l1,22,333;", "k0;l1,2,3;"}) {
            for (int length = 1; length < script.length(); length++) {
                if (script.charAt(length - 1) != ';') {
                    fault(script.substring(0, length), length);
                }
            }
            fault(script, NONE);
        }
    }

    private static void faultOfLongestText() {
        Check.sentence("Promise 27: texts of 90 characters");
        fault(repeated("k0;", 30), NONE);
        fault(repeated("k0;", 29) + "t1,", 90);
        fault(repeated("k0;", 29) + "k00", 90);
        fault(repeated("k0;", 29) + "k0,", 89);
        fault(repeated(";", 90), 0);
    }

    private static void faultOfOtherCommands() {
        Check.sentence("Promise 27: the first fault counts, and what lies behind it does not");
        fault("T0,1;", 0);
        fault(" k0;", 0);
        fault("k 0;", 1);
        fault("k-1;", 1);
        fault("k+1;", 1);
        fault("k0 ;", 2);
        fault("k0; ", 3);
        fault("k0;;", 3);
        fault("k0,1;", 2);
        fault("t0;", 2);
        fault("t0,1,2;", 4);
        fault("l0,1;", 4);
        fault("l0,1,2,3;", 6);
        fault("kk", 1);
    }

    private static void faultLooks() {
        Check.sentence("Promise 27: not undoable, fault only looks");
        Check.looks(() -> Mines.typed("k0;k"), x -> x.fault());
        Check.looks(Mines::closed, x -> x.fault());
    }

    // ---- Promise 28

    private static ShaftPlumb typed(ShaftPlumb x, String text) {
        x.clearText();
        Mines.type(x, text);
        return x;
    }

    private static void runs(ShaftPlumb x, String text, int want) {
        Check.due(typed(x, text).run(), want);
    }

    private static void runOfFault() {
        Check.sentence("Promise 28: the text has a fault, so that nothing of it is carried out");
        Check.argument(() -> typed(Mines.wires(), "t0,1;t0,2"), x -> x.run());
        Check.argument(() -> typed(Mines.wires(), "t0,1;t0,2; "), x -> x.run());
        Check.argument(() -> typed(Mines.wires(), "x"), x -> x.run());
        Check.argument(() -> typed(new ShaftPlumb(), repeated("k0;", 29) + "k00"), x -> x.run());
    }

    private static void runOfNothing() {
        Check.sentence("Promise 28: one change, also if there are no commands");
        Check.due(new ShaftPlumb().run(), 0);
        Check.undoable(ShaftPlumb::new, x -> x.run());
        Check.undoable(Mines::closed, x -> x.run());
        Check.sentence("Promise 28: one change, also if all commands are skipped");
        Check.due(fullText().run(), 0);
        Check.undoable(ScriptsTest::fullText, x -> x.run());
    }

    private static void runCarriesOut() {
        Check.sentence("SCRIPTS: t swing, l addLeg, k dropLeg, a adjust");
        ShaftPlumb x = Mines.legs(0);
        x.begin(0);
        runs(x, "t1,100;l1,1295999,200000;l1,0,7;k1;l0,5,6;", 5);
        Check.due(x.wire(1, 2), 4);
        Check.due(x.traverse(1, 1), 1);
        Check.due(x.leg(1, 0, 0), 1295999);
        Check.due(x.leg(1, 0, 1), 200000);
        Check.due(x.leg(0, 0, 0), 5);
        Check.due(x.leg(0, 0, 1), 6);
        ShaftPlumb y = Mines.closed(11);
        runs(y, "a0;", 1);
        Check.due(y.leg(0, 0, 0), 324000 - 6);
        Check.due(y.traverse(0, 3), 648000 - 5);
        Check.due(y.traverse(0, 5), 0);
        runs(y, "k0;l0,1,2;", 2);
        Check.due(y.traverse(0, 2), NONE);
        Check.due(y.leg(0, 0, 1), 2);
    }

    private static void runOfLongestText() {
        Check.sentence("Promise 28: 30 commands in 90 characters");
        ShaftPlumb x = Mines.legs(12);
        runs(x, repeated("k0;", 30), 12);
        Check.due(x.traverse(0, 1), 0);
    }

    private static void runOfNumbers() {
        Check.sentence("SCRIPTS: numbers of one digit and of seven, also with zeros ahead");
        ShaftPlumb x = Mines.legs(0);
        runs(x, "l0000000,0000005,0000006;l0,1295999,0200000;", 2);
        Check.due(x.leg(0, 0, 0), 5);
        Check.due(x.leg(0, 0, 1), 6);
        Check.due(x.leg(0, 1, 0), 1295999);
        Check.due(x.leg(0, 1, 1), 200000);
        runs(x, "l0,1234567,123456;t1,0000999;t0000001,0;", 3);
        Check.due(x.leg(0, 2, 0), 1234567);
        Check.due(x.leg(0, 2, 1), 123456);
        Check.due(x.wire(1, 2), 5);
    }

    private static void runSkipsTurns() {
        Check.sentence("Promise 28: a t is skipped for no such wire, a reading out of range, 9 turning points");
        ShaftPlumb x = Mines.wires();
        runs(x, "t2,0;t9999999,0;t0,1000;t1,9999999;", 0);
        runs(x, "t1,0;t1,999;", 2);
        runs(x, "t0,1;t0,2;t0,3;t0,4;t0,5;t0,6;t0,7;t0,8;", 6);
        Check.due(x.wire(0, 2), 9);
    }

    private static void runSkipsLegs() {
        Check.sentence("Promise 28: an l is skipped for no such traverse, what is out of range, closed, 12 legs");
        runs(Mines.legs(0), "l1,0,1;l9999999,0,1;l0,1296000,1;l0,0,0;l0,0,200001;l0,9999999,1;", 0);
        runs(Mines.legs(0), "l0,0,1;l0,1295999,1;l0,0,200000;", 3);
        runs(Mines.closed(), "l0,0,1;", 0);
        ShaftPlumb x = Mines.legs(11);
        runs(x, "l0,7,8;l0,9,10;", 1);
        Check.due(x.traverse(0, 1), 12);
        Check.due(x.leg(0, 11, 0), 7);
    }

    private static void runSkipsDrops() {
        Check.sentence("Promise 28: a k is skipped for no such traverse, no legs");
        runs(Mines.legs(1), "k1;k9999999;", 0);
        runs(Mines.legs(0), "k0;", 0);
        runs(Mines.legs(1), "k0;k0;", 1);
    }

    private static void runSkipsAdjustments() {
        Check.sentence("Promise 28: an a is skipped for no such traverse, not closed, in trouble");
        runs(Mines.closed(), "a1;a9999999;", 0);
        runs(Mines.legs(1), "a0;", 0);
        runs(Mines.legs(0), "a0;", 0);
        runs(Mines.closed(31), "a0;", 0);
        runs(Mines.closed(30), "a0;a0;", 2);
        ShaftPlumb x = Mines.closed();
        x.still(0);
        runs(x, "a0;", 0);
    }

    private static void runGoesOnBehindSkipped() {
        Check.sentence("Promise 28: returns the number of commands that were not skipped");
        ShaftPlumb x = Mines.closed(31);
        runs(x, "k0;k0;l0,1296000,1;l0,0,0;l0,0,200001;l0,0,200000;a0;", 2);
        Check.due(x.leg(0, 0, 1), 200000);
        runs(new ShaftPlumb(), "t0,0;l0,0,1;k0;a0;", 0);
    }

    private static void runInOrder() {
        Check.sentence("Promise 28: each command finds what those before it have left");
        ShaftPlumb after = Mines.closed(20);
        runs(after, "t1,150;a0;", 1);
        Check.due(after.leg(0, 0, 0), 324000);
        ShaftPlumb before = Mines.closed(20);
        runs(before, "a0;t1,150;a0;", 2);
        Check.due(before.leg(0, 0, 0), 324000 - 10);
        ShaftPlumb well = Mines.closed(20);
        well.still(1);
        runs(well, "a0;t1,100;t1,100;a0;t1,100;a0;", 4);
        Check.due(well.leg(0, 0, 0), 324000 - 10);
    }

    private static void runForgetsClearedText() {
        Check.sentence("Promise 28: nothing of a text that was cleared is carried out");
        ShaftPlumb x = typed(Mines.legs(5), "k00;k0;k0;");
        runs(x, "k0;", 1);
        Check.due(x.traverse(0, 1), 4);
        runs(x, "", 0);
        Check.due(x.traverse(0, 1), 4);
    }

    private static void runLeavesText() {
        Check.sentence("Promise 28: the text stays");
        ShaftPlumb x = Mines.legs(0);
        runs(x, "l0,5,6;", 1);
        Check.due(x.run(), 1);
        Check.due(x.traverse(0, 1), 2);
        x.undo();
        Check.due(x.run(), 1);
        Check.due(x.clearText(), 7);
    }

    private static void runKeepsOneCopy() {
        Check.sentence("Promise 28: all of it is one undoable change, with one copy");
        Check.undoable(() -> typed(Mines.wires(), "t0,1;t0,2;t1,3;"), x -> x.run());
        Check.undoable(() -> typed(Mines.wire(), "t0,1;t0,2;t0,3;"), x -> x.run());
        ShaftPlumb x = Mines.wire();
        for (int drift = 1; drift <= 4; drift++) {
            x.set(0, drift);
        }
        runs(x, "t0,1;t0,2;t0,3;t0,4;t0,5;", 5);
        Check.due(x.undo(), 3);
        Check.due(x.wire(0, 2), 0);
        for (int drift = 3; drift >= 1; drift--) {
            Check.due(x.undo(), drift - 1);
            Check.due(x.info(0), drift);
        }
    }
}
