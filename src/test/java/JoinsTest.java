/** Promises 8 to 10: join, measure, joinOf. */
public final class JoinsTest {
    public static void main(String[] args) {
        join();
        joinRanges();
        measure();
        joinNumbers();
        joinTroubles();
        starts();
        Check.end("JoinsTest");
    }

    private static void join() {
        ShaftPlumb x = Mines.wires();
        Check.due("join", x.join(0, 1, 5, 100, 100, 0), 0);
        Check.due("join", x.join(1, 0, 5, 100, 100, 0), 1);
        Check.due("join", x.join(0, 1, 5, 100, 100, 0), 2);
        Check.due("join", x.join(0, 1, 5, 100, 100, 0), 3);
        Check.state(x, "a fifth join", () -> x.join(0, 1, 5, 100, 100, 0));
        Check.argument(x, "a fifth join out of range", () -> x.join(0, 1, -5, 100, 100, 0));
        Check.index(x, "a fifth join without a wire", () -> x.join(0, 2, -5, 100, 100, 0));
        Check.due("undo of join", x.undo(), 3);
        Check.due("info(4)", x.info(4), 3);
    }

    private static void joinRanges() {
        ShaftPlumb x = Mines.wires();
        Check.index(x, "no near wire", () -> x.join(2, 1, 0, 100, 100, 0));
        Check.index(x, "no far wire", () -> x.join(0, 2, 0, 100, 100, 0));
        Check.index(x, "near -1", () -> x.join(-1, 1, 0, 100, 100, 0));
        Check.index(x, "far -1", () -> x.join(0, -1, 0, 100, 100, 0));
        Check.index(x, "the same wire, which is none", () -> x.join(2, 2, 0, 99, 100, 0));
        Check.argument(x, "the same wire", () -> x.join(1, 1, 0, 100, 100, 0));
        Check.argument(x, "bearing -1", () -> x.join(0, 1, -1, 100, 100, 0));
        Check.argument(x, "bearing 1296000", () -> x.join(0, 1, 1296000, 100, 100, 0));
        Check.argument(x, "c 99", () -> x.join(0, 1, 0, 99, 100, 0));
        Check.argument(x, "c 20001", () -> x.join(0, 1, 0, 20001, 100, 0));
        Check.argument(x, "a 99", () -> x.join(0, 1, 0, 100, 99, 0));
        Check.argument(x, "a 50001", () -> x.join(0, 1, 0, 100, 50001, 0));
        Check.argument(x, "g -3601", () -> x.join(0, 1, 0, 100, 100, -3601));
        Check.argument(x, "g 3601", () -> x.join(0, 1, 0, 100, 100, 3601));
        Check.due("the least of all", x.join(0, 1, 0, 100, 100, -3600), 0);
        Check.due("the greatest of all", x.join(0, 1, 1295999, 20000, 50000, 3600), 1);
        Check.due("its start", x.joinOf(1, 7), 1295999 + 9000 - 1296000);
    }

    private static void measure() {
        ShaftPlumb x = Mines.wires();
        Check.index(x, "measure(0, 0) without joins", () -> x.measure(0, 0));
        x.join(0, 1, 1000, 1000, 2000, 7);
        Check.index(x, "measure(-1, 0)", () -> x.measure(-1, 0));
        Check.index(x, "measure(1, 9999)", () -> x.measure(1, 9999));
        Check.argument(x, "measure(0, -3601)", () -> x.measure(0, -3601));
        Check.argument(x, "measure(0, 3601)", () -> x.measure(0, 3601));
        Check.due("measure", x.measure(0, -3600), 7);
        Check.due("measure", x.measure(0, 3600), -3600);
        Check.due("the start then", x.joinOf(0, 7), 8200);
        Check.due("undo of measure", x.undo(), 3);
        Check.due("g behind undo", x.joinOf(0, 5), -3600);
        Check.due("the start then", x.joinOf(0, 7), 1296000 - 6200);
    }

    private static void joinNumbers() {
        ShaftPlumb x = Mines.wires();
        x.join(1, 0, 4000, 500, 250, -9);
        int[] want = {1, 0, 4000, 500, 250, -9, 0, 3996};
        for (int what = 0; what < want.length; what++) {
            Check.due("joinOf(0, " + what + ")", x.joinOf(0, what), want[what]);
        }
        Check.argument(x, "joinOf(0, -1)", () -> x.joinOf(0, -1));
        Check.argument(x, "joinOf(0, 8)", () -> x.joinOf(0, 8));
        Check.index(x, "joinOf(-1, 0)", () -> x.joinOf(-1, 0));
        Check.index(x, "joinOf(1, 8)", () -> x.joinOf(1, 8));
    }

    private static void joinTroubles() {
        ShaftPlumb x = Mines.wires();
        x.join(0, 1, 0, 100, 300, 0);
        x.join(0, 1, 0, 100, 301, 0);
        Check.due("a is 3 * c", x.joinOf(0, 6), 0);
        Check.due("a is greater than 3 * c", x.joinOf(1, 6), 4);
        Check.due("the start in trouble 4", x.joinOf(1, 7), ShaftPlumb.NONE);
        x.still(1);
        Check.due("the far wire in trouble", x.joinOf(0, 6), 3);
        Check.due("both troubles", x.joinOf(1, 6), 3);
        Check.due("the start in trouble 3", x.joinOf(0, 7), ShaftPlumb.NONE);
        x.undo();
        x.still(0);
        Check.due("the near wire in trouble", x.joinOf(0, 6), 3);
        x.undo();
        Check.due("both wires well again", x.joinOf(0, 6), 0);
    }

    /** Each of the two quotients is rounded toward 0 by itself. */
    private static void starts() {
        ShaftPlumb x = new ShaftPlumb();
        x.hang(0, 0);
        x.hang(0, 0);
        x.set(0, 999);
        Mines.read(x, 0, 100, 100, 100);
        Mines.read(x, 1, 101, 101, 101);
        x.join(0, 1, 0, 1000, 1500, 1);
        Check.due("1 + 20", x.joinOf(0, 7), 21);
        x.join(1, 0, 0, 1000, 1500, -1);
        Check.due("-1 - 20", x.joinOf(1, 7), 1296000 - 21);
        x.join(0, 1, 1295990, 1000, 1999, -1);
        Check.due("-1 + 20 past the circle", x.joinOf(2, 7), 9);
        x.still(1);
        Mines.read(x, 1, 999, 999, 999);
        x.still(0);
        Mines.read(x, 0, 0, 0, 0);
        x.join(1, 0, 0, 100, 300, -3600);
        int turned = -10800 - 206053;
        Check.due("the greatest turn back", x.joinOf(3, 7), 1296000 + turned);
    }
}
