/**
 * Shaft plumbing for mines: wires that hang down shafts, joins that carry a bearing underground,
 * and traverses that start at a join and may close on another one.
 */
public final class ShaftPlumb {
    public static final int NONE = -2000000000;

    private static final int FINE = 0;
    private static final int NO_SUCH = 1;
    private static final int OUT_OF_RANGE = 2;
    private static final int NOT_NOW = 3;

    private static final int DRIFT = 0;
    private static final int TOLERANCE = 1;
    private static final int REACH = 2;
    private static final int LAST_SETTING = 2;
    private static final int[] LEAST_SETTINGS = {0, 1, 0};
    private static final int[] GREATEST_SETTINGS = {999, 600, 999999};

    private static final int MOST_WIRES = 6;
    private static final int MOST_TURNS = 9;
    private static final int MOST_JOINS = 4;
    private static final int MOST_TRAVERSES = 4;
    private static final int MOST_LEGS = 12;
    private static final int MOST_COPIES = 4;
    private static final int MOST_SIGNS = 90;
    private static final int MOST_DIGITS = 7;
    private static final int MOST_NUMBERS = 3;

    private static final int FARTHEST = 1000000;
    private static final int GREATEST_READING = 999;
    private static final int GREATEST_SMALL_ANGLE = 3600;
    private static final int LONGEST_LEG = 200000;
    private static final int GREATEST_FORECAST = 2000;
    private static final int METRE = 1000;
    private static final int GREATEST_ANGLE = 10000000;

    private static final int CIRCLE = 1296000;
    private static final int HALF_CIRCLE = 648000;
    private static final int QUARTER_CIRCLE = 324000;
    private static final int RADIUS = 10000;
    private static final long FIVE_QUARTER_SQUARES = 524880000000L;
    private static final int TOP_BIT_OF_ROOT = 30;
    private static final long SECONDS_OF_SWING = 20626L;

    private final Mine mine;
    private final Copies copies;
    private final Script script;

    public ShaftPlumb() {
        mine = new Mine();
        copies = new Copies();
        script = new Script();
    }

    // ---- settings, wires

    public int set(int what, int value) throws IllegalArgumentException {
        if (!mine.takesSetting(what, value)) {
            throw new IllegalArgumentException("no such setting, or a value out of its range");
        }
        copies.keep(mine);
        int before = mine.changeSetting(what, value);
        mine.judge();
        return before;
    }

    public int info(int what) throws IllegalArgumentException {
        if (!isIn(what, 0, 7)) {
            throw new IllegalArgumentException("what is 0 to 7");
        }
        return mine.number(what);
    }

    public int hang(int east, int north) throws IllegalArgumentException, IllegalStateException {
        if (!isIn(east, -FARTHEST, FARTHEST) || !isIn(north, -FARTHEST, FARTHEST)) {
            throw new IllegalArgumentException("a coordinate is out of range");
        }
        if (mine.wireCount >= MOST_WIRES) {
            throw new IllegalStateException("there are 6 wires");
        }
        copies.keep(mine);
        int number = mine.addWire(east, north);
        mine.judge();
        return number;
    }

    public int swing(int wire, int reading)
            throws IndexOutOfBoundsException, IllegalArgumentException, IllegalStateException {
        return order('t', wire, reading, 0);
    }

    public int still(int wire) throws IndexOutOfBoundsException {
        Wire stilled = mine.wireAt(wire);
        if (stilled == null) {
            throw new IndexOutOfBoundsException("no such wire");
        }
        copies.keep(mine);
        int before = stilled.dropTurns();
        mine.judge();
        return before;
    }

    public int wire(int wire, int what) throws IndexOutOfBoundsException, IllegalArgumentException {
        Wire asked = mine.wireAt(wire);
        if (asked == null) {
            throw new IndexOutOfBoundsException("no such wire");
        }
        if (!isIn(what, 0, 5)) {
            throw new IllegalArgumentException("what is 0 to 5");
        }
        return asked.number(what);
    }

    // ---- joins

    public int join(int near, int far, int bearing, int c, int a, int g)
            throws IndexOutOfBoundsException, IllegalArgumentException, IllegalStateException {
        if (mine.wireAt(near) == null || mine.wireAt(far) == null) {
            throw new IndexOutOfBoundsException("no such wire");
        }
        if (near == far || !isBearing(bearing) || !isIn(c, 100, 20000) || !isIn(a, 100, 50000) || !isSmall(g)) {
            throw new IllegalArgumentException("the same wire twice, or an argument out of range");
        }
        if (mine.joinCount >= MOST_JOINS) {
            throw new IllegalStateException("there are 4 joins");
        }
        copies.keep(mine);
        int number = mine.addJoin(near, far, bearing, c, a, g);
        mine.judge();
        return number;
    }

    public int measure(int join, int g) throws IndexOutOfBoundsException, IllegalArgumentException {
        Join measured = mine.joinAt(join);
        if (measured == null) {
            throw new IndexOutOfBoundsException("no such join");
        }
        if (!isSmall(g)) {
            throw new IllegalArgumentException("the small angle is out of range");
        }
        copies.keep(mine);
        int before = measured.g;
        measured.g = g;
        mine.judge();
        return before;
    }

    public int joinOf(int join, int what) throws IndexOutOfBoundsException, IllegalArgumentException {
        Join asked = mine.joinAt(join);
        if (asked == null) {
            throw new IndexOutOfBoundsException("no such join");
        }
        if (!isIn(what, 0, 7)) {
            throw new IllegalArgumentException("what is 0 to 7");
        }
        return asked.number(what);
    }

    // ---- traverses

    public int begin(int join) throws IndexOutOfBoundsException, IllegalStateException {
        if (mine.joinAt(join) == null) {
            throw new IndexOutOfBoundsException("no such join");
        }
        if (mine.traverseCount >= MOST_TRAVERSES) {
            throw new IllegalStateException("there are 4 traverses");
        }
        copies.keep(mine);
        int number = mine.addTraverse(join);
        mine.judge();
        return number;
    }

    public int addLeg(int traverse, int angle, int length)
            throws IndexOutOfBoundsException, IllegalArgumentException, IllegalStateException {
        return order('l', traverse, angle, length);
    }

    public int dropLeg(int traverse) throws IndexOutOfBoundsException, IllegalStateException {
        return order('k', traverse, 0, 0);
    }

    public int close(int traverse, int join, int angle)
            throws IndexOutOfBoundsException, IllegalArgumentException, IllegalStateException {
        Traverse closed = mine.traverseAt(traverse);
        if (closed == null || mine.joinAt(join) == null) {
            throw new IndexOutOfBoundsException("no such traverse or join");
        }
        if (join == closed.firstJoin || !isBearing(angle)) {
            throw new IllegalArgumentException("the first join, or an angle out of range");
        }
        if (closed.legCount == 0) {
            throw new IllegalStateException("the traverse has no legs");
        }
        copies.keep(mine);
        closed.closeOn(join, angle);
        mine.judge();
        return closed.trouble;
    }

    public int adjust(int traverse) throws IndexOutOfBoundsException, IllegalStateException {
        return order('a', traverse, 0, 0);
    }

    public int traverse(int traverse, int what) throws IndexOutOfBoundsException, IllegalArgumentException {
        Traverse asked = mine.traverseAt(traverse);
        if (asked == null) {
            throw new IndexOutOfBoundsException("no such traverse");
        }
        if (!isIn(what, 0, 9)) {
            throw new IllegalArgumentException("what is 0 to 9");
        }
        return asked.number(what);
    }

    public int leg(int traverse, int leg, int what) throws IndexOutOfBoundsException, IllegalArgumentException {
        Traverse asked = mine.traverseAt(traverse);
        if (asked == null || !asked.hasLeg(leg)) {
            throw new IndexOutOfBoundsException("no such traverse or leg");
        }
        if (!isIn(what, 0, 4)) {
            throw new IllegalArgumentException("what is 0 to 4");
        }
        return asked.numberOfLeg(leg, what);
    }

    public int trouble(int traverse, int level) throws IndexOutOfBoundsException {
        Traverse asked = mine.traverseAt(traverse);
        if (asked == null) {
            throw new IndexOutOfBoundsException("no such traverse");
        }
        return mine.troubleOf(asked, level);
    }

    // ---- checks and forecasts

    public int apart(int one, int other) throws IndexOutOfBoundsException {
        Traverse here = mine.traverseAt(one);
        Traverse there = mine.traverseAt(other);
        if (here == null || there == null) {
            throw new IndexOutOfBoundsException("no such traverse");
        }
        return here.distanceTo(there);
    }

    public boolean meets(int one, int other) throws IndexOutOfBoundsException {
        Traverse here = mine.traverseAt(one);
        Traverse there = mine.traverseAt(other);
        if (here == null || there == null) {
            throw new IndexOutOfBoundsException("no such traverse");
        }
        int distance = here.distanceTo(there);
        return distance != NONE && distance <= mine.settings[REACH];
    }

    public int sine(int angle) throws IllegalArgumentException {
        if (!isIn(angle, -GREATEST_ANGLE, GREATEST_ANGLE)) {
            throw new IllegalArgumentException("the angle is out of range");
        }
        return Numbers.sineOf(angle);
    }

    public int suspect(int traverse) throws IndexOutOfBoundsException {
        Traverse asked = mine.traverseAt(traverse);
        if (asked == null) {
            throw new IndexOutOfBoundsException("no such traverse");
        }
        return asked.suspectedLeg();
    }

    public int angleFor(int traverse, int join, int size)
            throws IndexOutOfBoundsException, IllegalArgumentException {
        Traverse asked = mine.traverseAt(traverse);
        Join swayed = mine.joinAt(join);
        if (asked == null || swayed == null) {
            throw new IndexOutOfBoundsException("no such traverse or join");
        }
        if (!isIn(size, 0, GREATEST_SMALL_ANGLE)) {
            throw new IllegalArgumentException("the size is out of range");
        }
        return asked.smallAngleFor(join, swayed, size);
    }

    public int reachBy(int traverse, int other, int angle, int most)
            throws IndexOutOfBoundsException, IllegalArgumentException {
        Traverse driven = mine.traverseAt(traverse);
        Traverse aim = mine.traverseAt(other);
        if (driven == null || aim == null) {
            throw new IndexOutOfBoundsException("no such traverse");
        }
        if (!isBearing(angle) || !isIn(most, 1, GREATEST_FORECAST)) {
            throw new IllegalArgumentException("the angle is no bearing, or most is out of range");
        }
        return driven.lengthTowards(aim, angle, most);
    }

    // ---- scripts, undo

    public int type(int c) throws IllegalArgumentException, IllegalStateException {
        if (!isIn(c, 32, 126)) {
            throw new IllegalArgumentException("the code is out of range");
        }
        if (script.length >= MOST_SIGNS) {
            throw new IllegalStateException("the text has 90 characters");
        }
        return script.append((char) c);
    }

    public int clearText() {
        return script.empty();
    }

    public int fault() {
        return script.firstFault();
    }

    public int run() throws IllegalArgumentException {
        if (script.firstFault() != NONE) {
            throw new IllegalArgumentException("the text has a fault");
        }
        copies.keep(mine);
        int done = 0;
        for (int at = 0; at < script.length; at++) {
            if (script.endsCommand(at) && obey(script.letter, script.numbers)) {
                done++;
            }
        }
        return done;
    }

    public int undo() throws IllegalStateException {
        if (copies.count == 0) {
            throw new IllegalStateException("there is no copy");
        }
        int left = copies.giveBack(mine);
        mine.judge();
        return left;
    }

    public long checksum() {
        long h = 12946;
        for (int what = 0; what <= 7; what++) {
            h = 31 * h + mine.number(what);
        }
        h = checkWires(h);
        h = checkJoins(h);
        for (int i = 0; i < mine.traverseCount; i++) {
            h = checkTraverse(h, mine.traverseAt(i));
        }
        h = 31 * h + script.length;
        return 31 * h + copies.count;
    }

    // ---- what the face shares

    private long checkWires(long before) {
        long h = before;
        for (int i = 0; i < mine.wireCount; i++) {
            Wire wire = mine.wireAt(i);
            for (int what = 0; what <= 5 && wire != null; what++) {
                h = 31 * h + wire.number(what);
            }
        }
        return h;
    }

    private long checkJoins(long before) {
        long h = before;
        for (int i = 0; i < mine.joinCount; i++) {
            Join join = mine.joinAt(i);
            for (int what = 0; what <= 7 && join != null; what++) {
                h = 31 * h + join.number(what);
            }
        }
        return h;
    }

    private long checkTraverse(long before, Traverse traverse) {
        long h = before;
        if (traverse == null) {
            return h;
        }
        for (int what = 0; what <= 9; what++) {
            h = 31 * h + traverse.number(what);
        }
        for (int leg = 0; leg < traverse.legCount; leg++) {
            for (int what = 0; what <= 4; what++) {
                h = 31 * h + traverse.numberOfLeg(leg, what);
            }
        }
        h = 31 * h + traverse.suspectedLeg();
        for (int level = 0; level <= 2; level++) {
            h = 31 * h + mine.troubleOf(traverse, level);
        }
        return h;
    }

    /** Carries out one of the calls that scripts know too, as a call of its own. */
    private int order(char letter, int first, int second, int third) {
        int refusal = refusalOf(letter, first, second, third);
        if (refusal == NO_SUCH) {
            throw new IndexOutOfBoundsException("no such wire or traverse");
        }
        if (refusal == OUT_OF_RANGE) {
            throw new IllegalArgumentException("an argument is out of range");
        }
        if (refusal == NOT_NOW) {
            throw new IllegalStateException("not as things stand");
        }
        copies.keep(mine);
        int answer = carryOut(letter, first, second, third);
        mine.judge();
        return answer;
    }

    /** Carries out a command of a script if its call would not throw, and tells whether it did. */
    private boolean obey(char letter, int[] numbers) {
        if (numbers.length < MOST_NUMBERS || refusalOf(letter, numbers[0], numbers[1], numbers[2]) != FINE) {
            return false;
        }
        carryOut(letter, numbers[0], numbers[1], numbers[2]);
        mine.judge();
        return true;
    }

    private int refusalOf(char letter, int first, int second, int third) {
        if (letter == 't') {
            return refusalOfTurn(mine.wireAt(first), second);
        }
        Traverse traverse = mine.traverseAt(first);
        if (traverse == null) {
            return NO_SUCH;
        }
        if (letter == 'l') {
            return refusalOfLeg(traverse, second, third);
        }
        if (letter == 'k') {
            return traverse.legCount == 0 ? NOT_NOW : FINE;
        }
        return traverse.isClosed() && traverse.trouble == 0 ? FINE : NOT_NOW;
    }

    private static int refusalOfTurn(Wire wire, int reading) {
        if (wire == null) {
            return NO_SUCH;
        }
        if (!isIn(reading, 0, GREATEST_READING)) {
            return OUT_OF_RANGE;
        }
        return wire.turnCount >= MOST_TURNS ? NOT_NOW : FINE;
    }

    private static int refusalOfLeg(Traverse traverse, int angle, int length) {
        if (!isBearing(angle) || !isIn(length, 1, LONGEST_LEG)) {
            return OUT_OF_RANGE;
        }
        return traverse.isClosed() || traverse.legCount >= MOST_LEGS ? NOT_NOW : FINE;
    }

    private int carryOut(char letter, int first, int second, int third) {
        if (letter == 't') {
            Wire wire = mine.wireAt(first);
            return wire == null ? NONE : wire.addTurn(second);
        }
        Traverse traverse = mine.traverseAt(first);
        if (traverse == null) {
            return NONE;
        }
        if (letter == 'l') {
            return traverse.append(second, third);
        }
        return letter == 'k' ? traverse.shorten() : traverse.takeGapAway();
    }

    private static boolean isIn(int value, int least, int greatest) {
        return value >= least && value <= greatest;
    }

    private static boolean isBearing(int angle) {
        return isIn(angle, 0, CIRCLE - 1);
    }

    private static boolean isSmall(int g) {
        return isIn(g, -GREATEST_SMALL_ANGLE, GREATEST_SMALL_ANGLE);
    }

    /** The arithmetic of angles, quotients and roots. */
    private static final class Numbers {
        static int norm(int angle) {
            int left = angle % CIRCLE;
            return left < 0 ? left + CIRCLE : left;
        }

        static int centre(int angle) {
            return norm(angle + HALF_CIRCLE) - HALF_CIRCLE;
        }

        static int sineOf(int angle) {
            int a = norm(angle);
            long half = a < HALF_CIRCLE ? a : a - HALF_CIRCLE;
            long s = half * (HALF_CIRCLE - half);
            int size = quotient(4 * RADIUS * s, FIVE_QUARTER_SQUARES - s);
            return a < HALF_CIRCLE ? size : -size;
        }

        static int quotient(long dividend, long divisor) {
            return divisor == 0 ? 0 : (int) (dividend / divisor);
        }

        static int lengthOf(long east, long north) {
            return rootOf(squareOf(east, north));
        }

        static long squareOf(long east, long north) {
            return east * east + north * north;
        }

        static int rootOf(long square) {
            long root = 0;
            for (int bit = TOP_BIT_OF_ROOT; bit >= 0; bit--) {
                long tried = root + (1L << bit);
                if (tried * tried <= square) {
                    root = tried;
                }
            }
            return (int) root;
        }
    }

    /** A wire with the turning points that were read on it. */
    private static final class Wire {
        int east;
        int north;
        int turnCount;
        int rest;
        int spread;
        int trouble;
        private final int[] turns = new int[MOST_TURNS];

        void copyFrom(Wire other) {
            east = other.east;
            north = other.north;
            turnCount = other.turnCount;
            System.arraycopy(other.turns, 0, turns, 0, MOST_TURNS);
        }

        void hangAt(int newEast, int newNorth) {
            east = newEast;
            north = newNorth;
            turnCount = 0;
        }

        int addTurn(int reading) {
            if (turnCount >= 0 && turnCount < turns.length) {
                turns[turnCount] = reading;
                turnCount++;
            }
            return turnCount;
        }

        int dropTurns() {
            int before = turnCount;
            turnCount = 0;
            return before;
        }

        void judge(int drift) {
            rest = meanOfTurns();
            spread = greatestDifference();
            trouble = turnCount < 3 ? 1 : spread > drift ? 2 : 0;
        }

        int number(int what) {
            switch (what) {
                case 0:
                    return east;
                case 1:
                    return north;
                case 2:
                    return turnCount;
                case 3:
                    return rest;
                case 4:
                    return trouble;
                default:
                    return spread;
            }
        }

        private int meanOfTurns() {
            if (turnCount < 3 || turnCount > turns.length) {
                return NONE;
            }
            int sum = turns[0] + turns[turnCount - 1];
            for (int i = 1; i < turnCount - 1; i++) {
                sum += 2 * turns[i];
            }
            return Numbers.quotient(sum, 2 * (turnCount - 1));
        }

        private int greatestDifference() {
            int greatest = 0;
            for (int i = 2; i < turnCount && i < turns.length; i++) {
                greatest = Math.max(greatest, Math.abs(turns[i] - turns[i - 2]));
            }
            return greatest;
        }
    }

    /** A pair of wires with the slender triangle that was measured at them. */
    private static final class Join {
        int near;
        int far;
        int g;
        int east;
        int north;
        int cause;
        int trouble;
        int start;
        private int bearing;
        private int c;
        private int a;
        private int swung;

        void copyFrom(Join other) {
            near = other.near;
            far = other.far;
            bearing = other.bearing;
            c = other.c;
            a = other.a;
            g = other.g;
        }

        void lay(int nearWire, int farWire, int bearingOfLine, int distance, int reach, int smallAngle) {
            near = nearWire;
            far = farWire;
            bearing = bearingOfLine;
            c = distance;
            a = reach;
            g = smallAngle;
        }

        void judge(Wire nearWire, Wire farWire) {
            if (nearWire == null || farWire == null) {
                return;
            }
            east = nearWire.east;
            north = nearWire.north;
            cause = nearWire.trouble != 0 ? nearWire.trouble : farWire.trouble;
            trouble = cause != 0 ? 3 : a > 3 * c ? 4 : 0;
            swung = cause != 0 ? 0 : Numbers.quotient((farWire.rest - nearWire.rest) * SECONDS_OF_SWING, c);
            start = trouble != 0 ? NONE : startWith(g);
        }

        /** The start of a join that is in no trouble, with a small angle in the place of g. */
        int startWith(int smallAngle) {
            return Numbers.norm(bearing + Numbers.quotient(smallAngle * a, c) + swung);
        }

        int number(int what) {
            switch (what) {
                case 0:
                    return near;
                case 1:
                    return far;
                case 2:
                    return bearing;
                case 3:
                    return c;
                case 4:
                    return a;
                case 5:
                    return g;
                case 6:
                    return trouble;
                default:
                    return start;
            }
        }
    }

    /** The legs of a traverse, the join where it starts, and the join on which it closes. */
    private static final class Traverse {
        int firstJoin;
        int lastJoin;
        int legCount;
        int trouble;
        private int closingAngle;
        private int gap;
        private int eastAtEnd;
        private int northAtEnd;
        private int missEast;
        private int missNorth;
        private final int[] angles = new int[MOST_LEGS];
        private final int[] lengths = new int[MOST_LEGS];
        private final int[] bearings = new int[MOST_LEGS];
        private final int[] easts = new int[MOST_LEGS];
        private final int[] norths = new int[MOST_LEGS];

        void copyFrom(Traverse other) {
            firstJoin = other.firstJoin;
            lastJoin = other.lastJoin;
            closingAngle = other.closingAngle;
            legCount = other.legCount;
            System.arraycopy(other.angles, 0, angles, 0, MOST_LEGS);
            System.arraycopy(other.lengths, 0, lengths, 0, MOST_LEGS);
        }

        void startAt(int join) {
            firstJoin = join;
            legCount = 0;
            closeOn(NONE, NONE);
        }

        void closeOn(int join, int angle) {
            lastJoin = join;
            closingAngle = angle;
        }

        boolean isClosed() {
            return lastJoin != NONE;
        }

        boolean hasLeg(int leg) {
            return leg >= 0 && leg < legCount && leg < MOST_LEGS;
        }

        boolean hasEnd() {
            return trouble != 5 && trouble != 6;
        }

        boolean hasGap() {
            return isClosed() && hasEnd() && trouble != 7;
        }

        int append(int angle, int length) {
            if (legCount < 0 || legCount >= MOST_LEGS) {
                return NONE;
            }
            angles[legCount] = angle;
            lengths[legCount] = length;
            legCount++;
            return legCount - 1;
        }

        int shorten() {
            if (legCount > 0) {
                legCount--;
            }
            closeOn(NONE, NONE);
            return legCount;
        }

        /** Takes the gap away from all the angles, and tells the gap that was. */
        int takeGapAway() {
            int before = gap;
            int share = Numbers.quotient(before, legCount + 1);
            int left = before - (legCount + 1) * share;
            int second = left < 0 ? -1 : 1;
            for (int i = 0; i < legCount && i < MOST_LEGS; i++) {
                int more = legsBefore(i) < Math.abs(left) ? second : 0;
                angles[i] = Numbers.norm(angles[i] - share - more);
            }
            closingAngle = Numbers.norm(closingAngle - share);
            return before;
        }

        /** How many legs come before a leg when the longest come first, of equal ones the smallest numbers. */
        private int legsBefore(int leg) {
            if (!hasLeg(leg)) {
                return 0;
            }
            int before = 0;
            for (int i = 0; i < legCount && i < MOST_LEGS; i++) {
                if (lengths[i] > lengths[leg] || lengths[i] == lengths[leg] && i < leg) {
                    before++;
                }
            }
            return before;
        }

        void judge(Join first, Join last, int tolerance) {
            if (first == null) {
                return;
            }
            trouble = legCount == 0 ? 5 : first.trouble != 0 ? 6 : 0;
            if (trouble != 0) {
                return;
            }
            int bearing = layOut(first);
            if (last == null) {
                return;
            }
            if (last.trouble != 0) {
                trouble = 7;
                return;
            }
            gap = Numbers.centre(bearing + closingAngle + HALF_CIRCLE - last.start);
            missEast = eastAtEnd - last.east;
            missNorth = northAtEnd - last.north;
            trouble = Math.abs(gap) > tolerance * Numbers.rootOf(legCount + 1) ? 8 : 0;
        }

        /** Finds the bearings of all legs and the coordinates behind them, and tells the last bearing. */
        private int layOut(Join first) {
            // Every leg adds half a circle to its angle, so the leg 0 sets out from the start turned by another half.
            int bearing = first.start + HALF_CIRCLE;
            eastAtEnd = first.east;
            northAtEnd = first.north;
            for (int i = 0; i < legCount && i < MOST_LEGS; i++) {
                bearing = Numbers.norm(bearing + angles[i] + HALF_CIRCLE);
                eastAtEnd += step(lengths[i], Numbers.sineOf(bearing));
                northAtEnd += step(lengths[i], Numbers.sineOf(bearing + QUARTER_CIRCLE));
                bearings[i] = bearing;
                easts[i] = eastAtEnd;
                norths[i] = northAtEnd;
            }
            return bearing;
        }

        private static int step(long length, int ratio) {
            return Numbers.quotient(length * ratio, RADIUS);
        }

        int number(int what) {
            switch (what) {
                case 0:
                    return firstJoin;
                case 1:
                    return legCount;
                case 2:
                    return lastJoin;
                case 3:
                    return closingAngle;
                case 4:
                    return trouble;
                case 6:
                    return sumOfLengths();
                default:
                    return hasGap() ? numberOfClosing(what) : NONE;
            }
        }

        private int numberOfClosing(int what) {
            switch (what) {
                case 5:
                    return gap;
                case 7:
                    return missEast;
                case 8:
                    return missNorth;
                default:
                    return Numbers.lengthOf(missEast, missNorth);
            }
        }

        private int sumOfLengths() {
            int sum = 0;
            for (int i = 0; i < legCount && i < MOST_LEGS; i++) {
                sum += lengths[i];
            }
            return sum;
        }

        int numberOfLeg(int leg, int what) {
            if (!hasLeg(leg)) {
                return NONE;
            }
            switch (what) {
                case 0:
                    return angles[leg];
                case 1:
                    return lengths[leg];
                case 2:
                    return hasEnd() ? bearings[leg] : NONE;
                case 3:
                    return hasEnd() ? easts[leg] : NONE;
                default:
                    return hasEnd() ? norths[leg] : NONE;
            }
        }

        /** The leg whose direction fits the miss best. */
        int suspectedLeg() {
            if (!hasGap()) {
                return NONE;
            }
            int suspected = NONE;
            long least = 0;
            for (int i = 0; i < legCount && i < MOST_LEGS; i++) {
                long along = (long) missEast * Numbers.sineOf(bearings[i] + QUARTER_CIRCLE);
                long size = Math.abs(along - (long) missNorth * Numbers.sineOf(bearings[i]));
                if (suspected == NONE || size < least) {
                    least = size;
                    suspected = i;
                }
            }
            return suspected;
        }

        int distanceTo(Traverse other) {
            if (!hasEnd() || !other.hasEnd()) {
                return NONE;
            }
            return Numbers.lengthOf(eastAtEnd - other.eastAtEnd, northAtEnd - other.northAtEnd);
        }

        /** The smallest small angle of a join with which the gap has at most a size. */
        int smallAngleFor(int number, Join join, int size) {
            if (!hasGap()) {
                return NONE;
            }
            int sign = number == firstJoin ? 1 : number == lastJoin ? -1 : 0;
            for (int g = -GREATEST_SMALL_ANGLE; g <= GREATEST_SMALL_ANGLE; g++) {
                int turned = sign * (join.startWith(g) - join.start);
                if (Math.abs(Numbers.centre(gap + turned)) <= size) {
                    return g;
                }
            }
            return NONE;
        }

        /** The length of a further leg at an angle with which the end comes nearest to another one. */
        int lengthTowards(Traverse other, int angle, int metres) {
            if (!hasEnd() || !other.hasEnd() || !hasLeg(legCount - 1)) {
                return NONE;
            }
            int bearing = bearings[legCount - 1] + angle + HALF_CIRCLE;
            int sineThere = Numbers.sineOf(bearing);
            int cosineThere = Numbers.sineOf(bearing + QUARTER_CIRCLE);
            int best = NONE;
            long least = 0;
            for (int i = 1; i <= metres; i++) {
                int length = METRE * i;
                int east = eastAtEnd + step(length, sineThere) - other.eastAtEnd;
                int north = northAtEnd + step(length, cosineThere) - other.northAtEnd;
                // Distances are told as roots, so a smaller square is not yet a smaller distance.
                if (best == NONE || Numbers.squareOf(east, north) < least * least) {
                    least = Numbers.lengthOf(east, north);
                    best = length;
                }
            }
            return best;
        }
    }

    /** Everything that undo brings back, and what follows from it. */
    private static final class Mine {
        final int[] settings = {20, 30, 500};
        int wireCount;
        int joinCount;
        int traverseCount;
        private final Wire[] wires = new Wire[MOST_WIRES];
        private final Join[] joins = new Join[MOST_JOINS];
        private final Traverse[] traverses = new Traverse[MOST_TRAVERSES];

        Mine() {
            for (int i = 0; i < MOST_WIRES; i++) {
                wires[i] = new Wire();
            }
            for (int i = 0; i < MOST_JOINS; i++) {
                joins[i] = new Join();
            }
            for (int i = 0; i < MOST_TRAVERSES; i++) {
                traverses[i] = new Traverse();
            }
        }

        /** Copies what was told; what follows from it stands after judge(). */
        void copyFrom(Mine other) {
            System.arraycopy(other.settings, 0, settings, 0, LAST_SETTING + 1);
            wireCount = other.wireCount;
            joinCount = other.joinCount;
            traverseCount = other.traverseCount;
            for (int i = 0; i < MOST_WIRES; i++) {
                wires[i].copyFrom(other.wires[i]);
            }
            for (int i = 0; i < MOST_JOINS; i++) {
                joins[i].copyFrom(other.joins[i]);
            }
            for (int i = 0; i < MOST_TRAVERSES; i++) {
                traverses[i].copyFrom(other.traverses[i]);
            }
        }

        /** Finds anew what follows from all that was told; due after every change, so that answers need only look. */
        void judge() {
            for (int i = 0; i < wireCount && i < MOST_WIRES; i++) {
                wires[i].judge(settings[DRIFT]);
            }
            for (int i = 0; i < joinCount && i < MOST_JOINS; i++) {
                joins[i].judge(wireAt(joins[i].near), wireAt(joins[i].far));
            }
            for (int i = 0; i < traverseCount && i < MOST_TRAVERSES; i++) {
                Join first = joinAt(traverses[i].firstJoin);
                Join last = joinAt(traverses[i].lastJoin);
                traverses[i].judge(first, last, settings[TOLERANCE]);
            }
        }

        boolean takesSetting(int what, int value) {
            return isIn(what, 0, LAST_SETTING) && isIn(value, LEAST_SETTINGS[what], GREATEST_SETTINGS[what]);
        }

        int changeSetting(int what, int value) {
            if (!isIn(what, 0, LAST_SETTING)) {
                return NONE;
            }
            int before = settings[what];
            settings[what] = value;
            return before;
        }

        int number(int what) {
            switch (what) {
                case 3:
                    return wireCount;
                case 4:
                    return joinCount;
                case 5:
                    return traverseCount;
                case 6:
                    return legsOfAll();
                case 7:
                    return turnsOfAll();
                default:
                    return isIn(what, 0, LAST_SETTING) ? settings[what] : NONE;
            }
        }

        private int legsOfAll() {
            int sum = 0;
            for (int i = 0; i < traverseCount && i < MOST_TRAVERSES; i++) {
                sum += traverses[i].legCount;
            }
            return sum;
        }

        private int turnsOfAll() {
            int sum = 0;
            for (int i = 0; i < wireCount && i < MOST_WIRES; i++) {
                sum += wires[i].turnCount;
            }
            return sum;
        }

        Wire wireAt(int wire) {
            return isIn(wire, 0, wireCount - 1) && wire < MOST_WIRES ? wires[wire] : null;
        }

        Join joinAt(int join) {
            return isIn(join, 0, joinCount - 1) && join < MOST_JOINS ? joins[join] : null;
        }

        Traverse traverseAt(int traverse) {
            return isIn(traverse, 0, traverseCount - 1) && traverse < MOST_TRAVERSES ? traverses[traverse] : null;
        }

        int addWire(int east, int north) {
            if (!isIn(wireCount, 0, MOST_WIRES - 1)) {
                return NONE;
            }
            wires[wireCount].hangAt(east, north);
            wireCount++;
            return wireCount - 1;
        }

        int addJoin(int near, int far, int bearing, int c, int a, int g) {
            if (!isIn(joinCount, 0, MOST_JOINS - 1)) {
                return NONE;
            }
            joins[joinCount].lay(near, far, bearing, c, a, g);
            joinCount++;
            return joinCount - 1;
        }

        int addTraverse(int join) {
            if (!isIn(traverseCount, 0, MOST_TRAVERSES - 1)) {
                return NONE;
            }
            traverses[traverseCount].startAt(join);
            traverseCount++;
            return traverseCount - 1;
        }

        int troubleOf(Traverse traverse, int level) {
            if (level == 0) {
                return traverse.trouble == 0 ? NONE : traverse.trouble;
            }
            Join troubled = null;
            if (traverse.trouble == 6) {
                troubled = joinAt(traverse.firstJoin);
            } else if (traverse.trouble == 7) {
                troubled = joinAt(traverse.lastJoin);
            }
            if (troubled == null) {
                return NONE;
            }
            if (level == 1) {
                return troubled.trouble;
            }
            return level == 2 && troubled.cause != 0 ? troubled.cause : NONE;
        }
    }

    /** The latest states of the mine; the rows are made once, and the oldest is written over. */
    private static final class Copies {
        int count;
        private int latest;
        private final Mine[] kept = new Mine[MOST_COPIES];

        Copies() {
            for (int i = 0; i < MOST_COPIES; i++) {
                kept[i] = new Mine();
            }
        }

        void keep(Mine mine) {
            latest = isIn(latest, 0, MOST_COPIES - 2) ? latest + 1 : 0;
            kept[latest].copyFrom(mine);
            count = Math.min(count + 1, MOST_COPIES);
        }

        int giveBack(Mine mine) {
            if (!isIn(latest, 0, MOST_COPIES - 1)) {
                return count;
            }
            mine.copyFrom(kept[latest]);
            latest = latest == 0 ? MOST_COPIES - 1 : latest - 1;
            count--;
            return count;
        }
    }

    /** The text buffer, and the command of it that is being read. */
    private static final class Script {
        int length;
        char letter;
        final int[] numbers = new int[MOST_NUMBERS];
        private int numberAt;
        private final char[] text = new char[MOST_SIGNS];

        int append(char sign) {
            if (length >= 0 && length < text.length) {
                text[length] = sign;
                length++;
            }
            return length;
        }

        int empty() {
            int before = length;
            length = 0;
            return before;
        }

        int firstFault() {
            int numbersDue = 0;
            int digits = 0;
            for (int i = 0; i < length && i < text.length; i++) {
                char sign = text[i];
                if (numbersDue == 0) {
                    numbersDue = numbersOf(sign);
                    if (numbersDue == 0) {
                        return i;
                    }
                } else if (isDigit(sign)) {
                    digits++;
                    if (digits > MOST_DIGITS) {
                        return i;
                    }
                } else {
                    if (digits == 0 || sign != (numbersDue > 1 ? ',' : ';')) {
                        return i;
                    }
                    numbersDue--;
                    digits = 0;
                }
            }
            return numbersDue == 0 ? NONE : length;
        }

        /** Reads on by one character of a text without fault; tells whether a command ends with it. */
        boolean endsCommand(int at) {
            char sign = at >= 0 && at < text.length ? text[at] : ' ';
            if (sign == ',') {
                numberAt++;
            } else if (isDigit(sign)) {
                if (numberAt >= 0 && numberAt < numbers.length) {
                    numbers[numberAt] = 10 * numbers[numberAt] + (sign - '0');
                }
            } else if (sign != ';') {
                startCommand(sign);
            }
            return sign == ';';
        }

        private void startCommand(char sign) {
            letter = sign;
            numberAt = 0;
            for (int i = 0; i < numbers.length; i++) {
                numbers[i] = 0;
            }
        }

        private static int numbersOf(char sign) {
            if (sign == 'l') {
                return 3;
            }
            if (sign == 't') {
                return 2;
            }
            return sign == 'k' || sign == 'a' ? 1 : 0;
        }

        private static boolean isDigit(char sign) {
            return sign >= '0' && sign <= '9';
        }
    }
}
