/** Long runs of calls on the program and on the model beside it; every answer and every checksum must agree. */
public final class ModelTest {
    private static final int RUNS = 500;
    private static final int MOST_CALLS = 512;

    private final ShaftPlumb x = new ShaftPlumb();
    private final Model m = new Model();
    private final int run;
    private long seed;
    private int used = 0;

    private ModelTest(int run) {
        this.run = run;
        this.seed = 1000003L * run + 17;
    }

    public static void main(String[] args) {
        for (int run = 0; run < RUNS; run++) {
            new ModelTest(run).calls();
        }
        Check.end("ModelTest");
    }

    // ---- arguments: the same numbers in every run of the tests

    private int below(int bound) {
        seed = seed * 6364136223846793005L + 1442695040888963407L;
        return (int) ((seed >>> 33) % bound);
    }

    private boolean chance(int percent) {
        return below(100) < percent;
    }

    private int one(int... of) {
        return of[below(of.length)];
    }

    /** A number of a range, now and then one of its edges or one past them. */
    private int from(int least, int most) {
        if (chance(94)) {
            return least + below(most - least + 1);
        }
        return one(least, most, least - 1, most + 1, Integer.MIN_VALUE, Integer.MAX_VALUE);
    }

    /** The number of a thing, most often of one that is there. */
    private int number(int count) {
        return chance(95) && count > 0 ? below(count) : one(-1, count, count + 1, Integer.MAX_VALUE);
    }

    private int wireNumber() {
        return number(m.info(3));
    }

    private int joinNumber() {
        return number(m.info(4));
    }

    private int traverseNumber() {
        return number(m.info(5));
    }

    private int angle() {
        return chance(40) ? 54000 * below(24) : from(0, 1295999);
    }

    private int length() {
        return chance(30) ? 1000 * (1 + below(4)) : from(1, 200000);
    }

    // ---- the calls

    private void calls() {
        int wires = 2 + below(3);
        for (int i = 0; i < wires; i++) {
            hang();
        }
        for (int i = 0; i < 3 * wires; i++) {
            int wire = i % wires;
            int reading = run % 3 == 0 ? 500 : 495 + below(12);
            both("swing(" + wire + ", " + reading + ")", () -> x.swing(wire, reading), () -> m.swing(wire, reading));
        }
        join();
        join();
        begin();
        addLeg();
        for (int i = 0; i < MOST_CALLS && isFresh(); i++) {
            call(below(100));
        }
    }

    /** Nothing is promised of an object behind its 512th call. */
    private boolean isFresh() {
        return used + 2 <= MOST_CALLS;
    }

    private void both(String call, Check.Call program, Check.Call model) {
        if (!isFresh()) {
            return;
        }
        used += 2;
        Check.dueText("run " + run + ": " + call, Check.outcome(program), Check.outcome(model));
        Check.due("run " + run + ": checksum() behind " + call, x.checksum(), m.checksum());
    }

    private void call(int kind) {
        if (kind < 3) {
            set();
        } else if (kind < 6) {
            hang();
        } else if (kind < 12) {
            swing();
        } else if (kind < 13) {
            still();
        } else if (kind < 17) {
            join();
        } else if (kind < 20) {
            measure();
        } else if (kind < 24) {
            begin();
        } else if (kind < 38) {
            addLeg();
        } else if (kind < 41) {
            dropLeg();
        } else if (kind < 55) {
            close();
        } else if (kind < 61) {
            adjust();
        } else if (kind < 68) {
            undo();
        } else if (kind < 78) {
            script();
        } else if (kind < 85) {
            forecast();
        } else {
            look(below(10));
        }
    }

    private void set() {
        int what = from(0, 2);
        int value = what == 0 ? from(0, 60) : what == 1 ? from(1, 600) : from(0, 999999);
        both("set(" + what + ", " + value + ")", () -> x.set(what, value), () -> m.set(what, value));
    }

    private void hang() {
        int east = chance(50) ? below(5000) : from(-1000000, 1000000);
        int north = chance(50) ? below(5000) : from(-1000000, 1000000);
        both("hang(" + east + ", " + north + ")", () -> x.hang(east, north), () -> m.hang(east, north));
    }

    private void swing() {
        int wire = wireNumber();
        int reading = chance(80) ? 490 + below(25) : from(0, 999);
        both("swing(" + wire + ", " + reading + ")", () -> x.swing(wire, reading), () -> m.swing(wire, reading));
    }

    private void still() {
        int wire = wireNumber();
        both("still(" + wire + ")", () -> x.still(wire), () -> m.still(wire));
    }

    private void join() {
        int near = chance(70) ? 0 : wireNumber();
        int far = chance(70) ? 1 : wireNumber();
        int bearing = angle();
        int c = from(100, chance(50) ? 3000 : 20000);
        int a = chance(85) && c >= 100 && c <= 20000 ? from(100, Math.min(50000, 3 * c)) : from(100, 50000);
        int g = from(-3600, 3600);
        String call = "join(" + near + ", " + far + ", " + bearing + ", " + c + ", " + a + ", " + g + ")";
        both(call, () -> x.join(near, far, bearing, c, a, g), () -> m.join(near, far, bearing, c, a, g));
    }

    private void measure() {
        int join = joinNumber();
        int g = from(-3600, 3600);
        both("measure(" + join + ", " + g + ")", () -> x.measure(join, g), () -> m.measure(join, g));
    }

    private void begin() {
        int join = joinNumber();
        both("begin(" + join + ")", () -> x.begin(join), () -> m.begin(join));
    }

    private void addLeg() {
        int traverse = traverseNumber();
        int angle = angle();
        int length = length();
        String call = "addLeg(" + traverse + ", " + angle + ", " + length + ")";
        both(call, () -> x.addLeg(traverse, angle, length), () -> m.addLeg(traverse, angle, length));
    }

    private void dropLeg() {
        int traverse = traverseNumber();
        both("dropLeg(" + traverse + ")", () -> x.dropLeg(traverse), () -> m.dropLeg(traverse));
    }

    /** Closes a traverse, and then mostly anew with a small gap, so that adjust() has something to do. */
    private void close() {
        int traverse = traverseNumber();
        int join = joinNumber();
        closeBy(traverse, join, angle());
        boolean there = traverse >= 0 && traverse < m.info(5);
        int gap = there ? m.traverse(traverse, 5) : Model.NONE;
        if (gap != Model.NONE && chance(80)) {
            int most = m.info(1) * one(1, 1, 2, 3);
            int aim = chance(60) ? below(2 * most + 1) - most : one(most, most + 1, -most, -most - 1, 0);
            closeBy(traverse, join, Model.norm((long) m.traverse(traverse, 3) - gap + aim));
        }
    }

    private void closeBy(int traverse, int join, int angle) {
        String call = "close(" + traverse + ", " + join + ", " + angle + ")";
        both(call, () -> x.close(traverse, join, angle), () -> m.close(traverse, join, angle));
    }

    private void adjust() {
        int traverse = traverseNumber();
        both("adjust(" + traverse + ")", () -> x.adjust(traverse), () -> m.adjust(traverse));
    }

    private void undo() {
        int times = one(1, 1, 1, 2, 5);
        for (int i = 0; i < times; i++) {
            both("undo()", () -> x.undo(), () -> m.undo());
        }
    }

    private String command() {
        int t = chance(90) ? below(4) : below(10000000);
        switch (below(5)) {
            case 0:
                return "t" + t + "," + (chance(90) ? 490 + below(25) : below(10000000)) + ";";
            case 1:
            case 2:
                return "l" + t + "," + (chance(90) ? below(1296000) : below(10000000)) + "," + below(210000) + ";";
            case 3:
                return "k" + t + ";";
            default:
                return "a" + t + ";";
        }
    }

    /** Types a text of commands, now and then with a sign that is wrong, and runs it. The text is long at times. */
    private void script() {
        both("clearText()", () -> x.clearText(), () -> m.clearText());
        StringBuilder text = new StringBuilder();
        int commands = below(5);
        for (int i = 0; i < commands; i++) {
            text.append(command());
        }
        if (chance(30) && text.length() > 0) {
            text.setCharAt(below(text.length()), "tlka,;0123456789 x~".charAt(below(19)));
        }
        if (chance(15) && text.length() > 0) {
            text.setLength(below(text.length()));
        }
        for (int i = 0; i < text.length() && isFresh(); i++) {
            int c = text.charAt(i);
            used++;
            Check.due("type(" + c + ")", x.type(c), m.type(c));
        }
        both("fault() of " + text, () -> x.fault(), () -> m.fault());
        both("run() of " + text, () -> x.run(), () -> m.run());
    }

    private void forecast() {
        int one = traverseNumber();
        int other = traverseNumber();
        int join = joinNumber();
        if (chance(50)) {
            int size = chance(60) ? below(10) : from(0, 3600);
            String call = "angleFor(" + one + ", " + join + ", " + size + ")";
            both(call, () -> x.angleFor(one, join, size), () -> m.angleFor(one, join, size));
        } else {
            int angle = angle();
            int most = from(1, chance(50) ? 50 : 2000);
            String call = "reachBy(" + one + ", " + other + ", " + angle + ", " + most + ")";
            both(call, () -> x.reachBy(one, other, angle, most), () -> m.reachBy(one, other, angle, most));
        }
    }

    private void look(int kind) {
        int traverse = traverseNumber();
        int other = traverseNumber();
        int wire = wireNumber();
        int join = joinNumber();
        int what = from(0, 9);
        int leg = from(0, 11);
        int angle = from(-10000000, 10000000);
        switch (kind) {
            case 0:
                both("info(" + what + ")", () -> x.info(what), () -> m.info(what));
                break;
            case 1:
                both("wire(" + wire + ", " + what + ")", () -> x.wire(wire, what), () -> m.wire(wire, what));
                break;
            case 2:
                both("joinOf(" + join + ", " + what + ")", () -> x.joinOf(join, what), () -> m.joinOf(join, what));
                break;
            case 3:
                both("traverse(" + traverse + ", " + what + ")",
                    () -> x.traverse(traverse, what), () -> m.traverse(traverse, what));
                break;
            case 4:
                both("leg(" + traverse + ", " + leg + ", " + what + ")",
                    () -> x.leg(traverse, leg, what), () -> m.leg(traverse, leg, what));
                break;
            case 5:
                both("trouble(" + traverse + ", " + what + ")",
                    () -> x.trouble(traverse, what), () -> m.trouble(traverse, what));
                break;
            case 6:
                both("apart(" + traverse + ", " + other + ")",
                    () -> x.apart(traverse, other), () -> m.apart(traverse, other));
                break;
            case 7:
                both("meets(" + traverse + ", " + other + ")",
                    () -> x.meets(traverse, other) ? 1 : 0, () -> m.meets(traverse, other) ? 1 : 0);
                break;
            case 8:
                both("sine(" + angle + ")", () -> x.sine(angle), () -> m.sine(angle));
                break;
            default:
                both("suspect(" + traverse + ")", () -> x.suspect(traverse), () -> m.suspect(traverse));
                break;
        }
    }
}
