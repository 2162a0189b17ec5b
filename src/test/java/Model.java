import java.math.BigInteger;
import java.util.ArrayList;
import java.util.List;

/**
 * The document once more, word by word and without regard to cost: what is asked is found anew from what was
 * told, with numbers of any size. It shares no code with the program.
 */
final class Model {
    static final int NONE = -2000000000;

    private int[] settings = {20, 30, 500};
    private List<int[]> places = new ArrayList<>();
    private List<List<Integer>> turns = new ArrayList<>();
    private List<int[]> joins = new ArrayList<>();
    private List<Path> paths = new ArrayList<>();
    private final StringBuilder text = new StringBuilder();
    private final List<Model> copies = new ArrayList<>();

    private static final class Path {
        private int first;
        private boolean closed;
        private int last;
        private int closing;
        private final List<int[]> legs = new ArrayList<>();
    }

    // ---- what may be refused

    private static void index(boolean fine) {
        if (!fine) {
            throw new IndexOutOfBoundsException();
        }
    }

    private static void argument(boolean fine) {
        if (!fine) {
            throw new IllegalArgumentException();
        }
    }

    private static void state(boolean fine) {
        if (!fine) {
            throw new IllegalStateException();
        }
    }

    private static boolean within(int value, int from, int to) {
        return from <= value && value <= to;
    }

    private static void wireThere(List<?> all, int number) {
        index(0 <= number && number < all.size());
    }

    // ---- copies

    private void keep() {
        Model copy = new Model();
        copy.take(this);
        copies.add(copy);
        if (copies.size() > 4) {
            copies.remove(0);
        }
    }

    private void take(Model from) {
        settings = from.settings.clone();
        places = new ArrayList<>(from.places);
        turns = new ArrayList<>();
        for (List<Integer> each : from.turns) {
            turns.add(new ArrayList<>(each));
        }
        joins = new ArrayList<>();
        for (int[] each : from.joins) {
            joins.add(each.clone());
        }
        paths = new ArrayList<>();
        for (Path each : from.paths) {
            Path path = new Path();
            path.first = each.first;
            path.closed = each.closed;
            path.last = each.last;
            path.closing = each.closing;
            for (int[] leg : each.legs) {
                path.legs.add(leg.clone());
            }
            paths.add(path);
        }
    }

    // ---- arithmetic

    private static BigInteger big(long value) {
        return BigInteger.valueOf(value);
    }

    private static int divided(BigInteger dividend, long divisor) {
        return dividend.divide(big(divisor)).intValueExact();
    }

    static int norm(long angle) {
        long a = angle;
        while (a < 0) {
            a += 1296000;
        }
        while (a > 1295999) {
            a -= 1296000;
        }
        return (int) a;
    }

    static int centre(long angle) {
        long a = angle;
        while (a < -648000) {
            a += 1296000;
        }
        while (a > 647999) {
            a -= 1296000;
        }
        return (int) a;
    }

    static int sineOf(long angle) {
        int a = norm(angle);
        if (a >= 648000) {
            return -sineOf(a - 648000);
        }
        BigInteger s = big(a).multiply(big(648000 - a));
        return big(40000).multiply(s).divide(big(524880000000L).subtract(s)).intValueExact();
    }

    private static int cosineOf(long angle) {
        return sineOf(angle + 324000);
    }

    private static int hypotenuse(long east, long north) {
        return big(east).pow(2).add(big(north).pow(2)).sqrt().intValueExact();
    }

    // ---- wires

    int set(int what, int value) {
        int[][] ranges = {{0, 999}, {1, 600}, {0, 999999}};
        argument(within(what, 0, 2));
        argument(within(value, ranges[what][0], ranges[what][1]));
        keep();
        int before = settings[what];
        settings[what] = value;
        return before;
    }

    int info(int what) {
        argument(within(what, 0, 7));
        int legs = 0;
        for (Path path : paths) {
            legs += path.legs.size();
        }
        int readings = 0;
        for (List<Integer> each : turns) {
            readings += each.size();
        }
        int[] all = {settings[0], settings[1], settings[2], places.size(), joins.size(), paths.size(), legs, readings};
        return all[what];
    }

    int hang(int east, int north) {
        argument(within(east, -1000000, 1000000) && within(north, -1000000, 1000000));
        state(places.size() < 6);
        keep();
        places.add(new int[] {east, north});
        turns.add(new ArrayList<>());
        return places.size() - 1;
    }

    int swing(int wire, int reading) {
        wireThere(places, wire);
        argument(within(reading, 0, 999));
        state(turns.get(wire).size() < 9);
        keep();
        turns.get(wire).add(reading);
        return turns.get(wire).size();
    }

    int still(int wire) {
        wireThere(places, wire);
        keep();
        int had = turns.get(wire).size();
        turns.get(wire).clear();
        return had;
    }

    private int rest(int wire) {
        List<Integer> read = turns.get(wire);
        int n = read.size();
        int others = 0;
        for (int reading : read.subList(1, n - 1)) {
            others += reading;
        }
        return divided(big(read.get(0) + read.get(n - 1) + 2 * others), 2 * (n - 1));
    }

    private int difference(int wire) {
        int greatest = 0;
        List<Integer> read = turns.get(wire);
        for (int i = 0; i + 2 < read.size(); i++) {
            greatest = Math.max(greatest, Math.abs(read.get(i) - read.get(i + 2)));
        }
        return greatest;
    }

    private int wireTrouble(int wire) {
        if (turns.get(wire).size() < 3) {
            return 1;
        }
        return difference(wire) > settings[0] ? 2 : 0;
    }

    int wire(int wire, int what) {
        wireThere(places, wire);
        argument(within(what, 0, 5));
        int count = turns.get(wire).size();
        int[] all = {places.get(wire)[0], places.get(wire)[1], count, count < 3 ? NONE : rest(wire),
            wireTrouble(wire), difference(wire)};
        return all[what];
    }

    // ---- joins

    int join(int near, int far, int bearing, int c, int a, int g) {
        wireThere(places, near);
        wireThere(places, far);
        argument(near != far && within(bearing, 0, 1295999) && within(c, 100, 20000));
        argument(within(a, 100, 50000) && within(g, -3600, 3600));
        state(joins.size() < 4);
        keep();
        joins.add(new int[] {near, far, bearing, c, a, g});
        return joins.size() - 1;
    }

    int measure(int join, int g) {
        wireThere(joins, join);
        argument(within(g, -3600, 3600));
        keep();
        int before = joins.get(join)[5];
        joins.get(join)[5] = g;
        return before;
    }

    private int joinCause(int join) {
        int near = wireTrouble(joins.get(join)[0]);
        return near != 0 ? near : wireTrouble(joins.get(join)[1]);
    }

    private int joinTrouble(int join) {
        if (joinCause(join) != 0) {
            return 3;
        }
        return joins.get(join)[4] > 3 * joins.get(join)[3] ? 4 : 0;
    }

    private int start(int join) {
        int[] j = joins.get(join);
        int turned = divided(big(j[5]).multiply(big(j[4])), j[3]);
        int swung = divided(big(rest(j[1]) - rest(j[0])).multiply(big(20626)), j[3]);
        return norm((long) j[2] + turned + swung);
    }

    int joinOf(int join, int what) {
        wireThere(joins, join);
        argument(within(what, 0, 7));
        if (what < 6) {
            return joins.get(join)[what];
        }
        int trouble = joinTrouble(join);
        return what == 6 ? trouble : trouble == 0 ? start(join) : NONE;
    }

    // ---- traverses

    int begin(int join) {
        wireThere(joins, join);
        state(paths.size() < 4);
        keep();
        Path path = new Path();
        path.first = join;
        paths.add(path);
        return paths.size() - 1;
    }

    int addLeg(int traverse, int angle, int length) {
        wireThere(paths, traverse);
        argument(within(angle, 0, 1295999) && within(length, 1, 200000));
        Path path = paths.get(traverse);
        state(!path.closed && path.legs.size() < 12);
        keep();
        paths.get(traverse).legs.add(new int[] {angle, length});
        return path.legs.size() - 1;
    }

    int dropLeg(int traverse) {
        wireThere(paths, traverse);
        Path path = paths.get(traverse);
        state(!path.legs.isEmpty());
        keep();
        path.legs.remove(path.legs.size() - 1);
        path.closed = false;
        return path.legs.size();
    }

    int close(int traverse, int join, int angle) {
        wireThere(paths, traverse);
        wireThere(joins, join);
        Path path = paths.get(traverse);
        argument(join != path.first && within(angle, 0, 1295999));
        state(!path.legs.isEmpty());
        keep();
        path.closed = true;
        path.last = join;
        path.closing = angle;
        return pathTrouble(path);
    }

    private int bearing(Path path, int leg) {
        long before = leg == 0 ? start(path.first) : (long) bearing(path, leg - 1) + 648000;
        return norm(before + path.legs.get(leg)[0]);
    }

    private int gap(Path path) {
        long closing = norm((long) bearing(path, path.legs.size() - 1) + path.closing + 648000);
        return centre(closing - start(path.last));
    }

    private int pathTrouble(Path path) {
        if (path.legs.isEmpty()) {
            return 5;
        }
        if (joinTrouble(path.first) != 0) {
            return 6;
        }
        if (path.closed && joinTrouble(path.last) != 0) {
            return 7;
        }
        int root = big(path.legs.size() + 1).sqrt().intValueExact();
        return path.closed && Math.abs(gap(path)) > settings[1] * root ? 8 : 0;
    }

    private boolean hasGap(Path path) {
        return path.closed && !within(pathTrouble(path), 5, 7);
    }

    private int[] end(Path path, int leg) {
        int[] place = (leg == 0 ? places.get(joins.get(path.first)[0]) : end(path, leg - 1)).clone();
        BigInteger length = big(path.legs.get(leg)[1]);
        int bearing = bearing(path, leg);
        place[0] += divided(length.multiply(big(sineOf(bearing))), 10000);
        place[1] += divided(length.multiply(big(cosineOf(bearing))), 10000);
        return place;
    }

    private int[] end(Path path) {
        return end(path, path.legs.size() - 1);
    }

    private int[] miss(Path path) {
        int[] aim = places.get(joins.get(path.last)[0]);
        int[] end = end(path);
        return new int[] {end[0] - aim[0], end[1] - aim[1]};
    }

    int adjust(int traverse) {
        wireThere(paths, traverse);
        Path path = paths.get(traverse);
        state(path.closed && pathTrouble(path) == 0);
        int gap = gap(path);
        keep();
        int m = path.legs.size() + 1;
        int share = divided(big(gap), m);
        for (int[] leg : path.legs) {
            leg[0] = norm((long) leg[0] - share);
        }
        path.closing = norm((long) path.closing - share);
        int left = gap - m * share;
        List<int[]> waiting = new ArrayList<>(path.legs);
        while (left != 0) {
            int[] longest = waiting.get(0);
            for (int[] leg : waiting) {
                longest = leg[1] > longest[1] ? leg : longest;
            }
            int[] chosen = longest;
            waiting.removeIf(leg -> leg == chosen);
            chosen[0] = norm(chosen[0] - Integer.signum(left));
            left -= Integer.signum(left);
        }
        return gap;
    }

    int traverse(int traverse, int what) {
        wireThere(paths, traverse);
        argument(within(what, 0, 9));
        Path path = paths.get(traverse);
        if (what == 5 || what > 6) {
            if (!hasGap(path)) {
                return NONE;
            }
            int[] miss = miss(path);
            return what == 5 ? gap(path) : what == 9 ? hypotenuse(miss[0], miss[1]) : miss[what - 7];
        }
        int sum = 0;
        for (int[] leg : path.legs) {
            sum += leg[1];
        }
        int[] all = {path.first, path.legs.size(), path.closed ? path.last : NONE, path.closed ? path.closing : NONE,
            pathTrouble(path), 0, sum};
        return all[what];
    }

    int leg(int traverse, int leg, int what) {
        wireThere(paths, traverse);
        Path path = paths.get(traverse);
        wireThere(path.legs, leg);
        argument(within(what, 0, 4));
        if (what < 2) {
            return path.legs.get(leg)[what];
        }
        if (joinTrouble(path.first) != 0) {
            return NONE;
        }
        return what == 2 ? bearing(path, leg) : end(path, leg)[what - 3];
    }

    int trouble(int traverse, int level) {
        wireThere(paths, traverse);
        Path path = paths.get(traverse);
        List<Integer> chain = new ArrayList<>();
        int own = pathTrouble(path);
        if (own != 0) {
            chain.add(own);
        }
        if (own == 6 || own == 7) {
            int join = own == 6 ? path.first : path.last;
            chain.add(joinTrouble(join));
            if (joinTrouble(join) == 3) {
                chain.add(joinCause(join));
            }
        }
        return 0 <= level && level < chain.size() ? chain.get(level) : NONE;
    }

    // ---- checks and forecasts

    int apart(int one, int other) {
        wireThere(paths, one);
        wireThere(paths, other);
        Path a = paths.get(one);
        Path b = paths.get(other);
        if (within(pathTrouble(a), 5, 6) || within(pathTrouble(b), 5, 6)) {
            return NONE;
        }
        return hypotenuse(end(a)[0] - end(b)[0], end(a)[1] - end(b)[1]);
    }

    boolean meets(int one, int other) {
        int distance = apart(one, other);
        return distance != NONE && distance <= settings[2];
    }

    int sine(int angle) {
        argument(within(angle, -10000000, 10000000));
        return sineOf(angle);
    }

    int suspect(int traverse) {
        wireThere(paths, traverse);
        Path path = paths.get(traverse);
        if (!hasGap(path)) {
            return NONE;
        }
        int[] miss = miss(path);
        int best = -1;
        BigInteger least = null;
        for (int leg = 0; leg < path.legs.size(); leg++) {
            BigInteger along = big(miss[0]).multiply(big(cosineOf(bearing(path, leg))));
            BigInteger size = along.subtract(big(miss[1]).multiply(big(sineOf(bearing(path, leg))))).abs();
            if (least == null || size.compareTo(least) < 0) {
                least = size;
                best = leg;
            }
        }
        return best;
    }

    int angleFor(int traverse, int join, int size) {
        wireThere(paths, traverse);
        wireThere(joins, join);
        argument(within(size, 0, 3600));
        Path path = paths.get(traverse);
        if (!hasGap(path)) {
            return NONE;
        }
        int before = joins.get(join)[5];
        int found = NONE;
        for (int g = 3600; g >= -3600; g--) {
            joins.get(join)[5] = g;
            int gap = gapFast(path);
            found = gap <= size && gap >= -size ? g : found;
        }
        joins.get(join)[5] = before;
        return found;
    }

    /** The gap in one sum, as the recursion is too slow for thousands of small angles. */
    private int gapFast(Path path) {
        long sum = start(path.first) + path.closing;
        for (int[] leg : path.legs) {
            sum += leg[0] + 648000;
        }
        return centre(sum - start(path.last));
    }

    int reachBy(int traverse, int other, int angle, int most) {
        wireThere(paths, traverse);
        wireThere(paths, other);
        argument(within(angle, 0, 1295999) && within(most, 1, 2000));
        if (apart(traverse, other) == NONE) {
            return NONE;
        }
        Path path = paths.get(traverse);
        int[] from = end(path);
        int[] aim = end(paths.get(other));
        int bearing = norm((long) bearing(path, path.legs.size() - 1) + angle + 648000);
        int best = 0;
        int least = Integer.MAX_VALUE;
        for (int metres = most; metres >= 1; metres--) {
            int east = from[0] + divided(big(metres * 1000L * sineOf(bearing)), 10000) - aim[0];
            int north = from[1] + divided(big(metres * 1000L * cosineOf(bearing)), 10000) - aim[1];
            int distance = hypotenuse(east, north);
            if (distance <= least) {
                least = distance;
                best = metres * 1000;
            }
        }
        return best;
    }

    // ---- scripts, undo

    int type(int c) {
        argument(within(c, 32, 126));
        state(text.length() < 90);
        text.append((char) c);
        return text.length();
    }

    int clearText() {
        int had = text.length();
        text.setLength(0);
        return had;
    }

    private static final String NUMBER = "[0-9]{1,7}";
    private static final java.util.regex.Pattern SCRIPT = java.util.regex.Pattern.compile(
        "(t" + NUMBER + "," + NUMBER + ";|l" + NUMBER + "," + NUMBER + "," + NUMBER + ";|[ka]" + NUMBER + ";)*");

    /** Whether some script begins with a text: one does if the text and one of these ends make one. */
    private static boolean begins(String start) {
        for (String end : new String[] {"", ";", "0;", ",0;", "0,0;", ",0,0;", "0,0,0;"}) {
            if (SCRIPT.matcher(start + end).matches()) {
                return true;
            }
        }
        return false;
    }

    int fault() {
        if (SCRIPT.matcher(text).matches()) {
            return NONE;
        }
        int good = 0;
        while (good < text.length() && begins(text.substring(0, good + 1))) {
            good++;
        }
        return good;
    }

    int run() {
        argument(fault() == NONE);
        keep();
        List<Model> before = new ArrayList<>(copies);
        int done = 0;
        for (String command : text.length() == 0 ? new String[0] : text.toString().split(";")) {
            String[] numbers = command.substring(1).split(",");
            int[] n = new int[3];
            for (int i = 0; i < numbers.length; i++) {
                n[i] = Integer.parseInt(numbers[i]);
            }
            done += carried(command.charAt(0), n) ? 1 : 0;
        }
        copies.clear();
        copies.addAll(before);
        return done;
    }

    private boolean carried(char letter, int[] n) {
        try {
            switch (letter) {
                case 't':
                    swing(n[0], n[1]);
                    break;
                case 'l':
                    addLeg(n[0], n[1], n[2]);
                    break;
                case 'k':
                    dropLeg(n[0]);
                    break;
                default:
                    adjust(n[0]);
                    break;
            }
            return true;
        } catch (RuntimeException refused) {
            return false;
        }
    }

    int undo() {
        state(!copies.isEmpty());
        take(copies.remove(copies.size() - 1));
        return copies.size();
    }

    long checksum() {
        List<Integer> v = new ArrayList<>();
        for (int what = 0; what <= 7; what++) {
            v.add(info(what));
        }
        for (int i = 0; i < places.size() * 6; i++) {
            v.add(wire(i / 6, i % 6));
        }
        for (int i = 0; i < joins.size() * 8; i++) {
            v.add(joinOf(i / 8, i % 8));
        }
        for (int t = 0; t < paths.size(); t++) {
            for (int what = 0; what <= 9; what++) {
                v.add(traverse(t, what));
            }
            for (int i = 0; i < paths.get(t).legs.size() * 5; i++) {
                v.add(leg(t, i / 5, i % 5));
            }
            v.add(suspect(t));
            for (int level = 0; level <= 2; level++) {
                v.add(trouble(t, level));
            }
        }
        v.add(text.length());
        v.add(copies.size());
        long h = 12946;
        for (int each : v) {
            h = 31 * h + each;
        }
        return h;
    }
}
