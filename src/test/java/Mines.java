/** Mines that several tests start from. */
final class Mines {
    private Mines() {
    }

    /** Reads the turning points of a wire. */
    static void read(ShaftPlumb x, int wire, int... readings) {
        for (int reading : readings) {
            x.swing(wire, reading);
        }
    }

    static void type(ShaftPlumb x, String text) {
        for (int i = 0; i < text.length(); i++) {
            x.type(text.charAt(i));
        }
    }

    /** An empty mine with a text. */
    static ShaftPlumb typed(String text) {
        ShaftPlumb x = new ShaftPlumb();
        type(x, text);
        return x;
    }

    /** A mine with one wire. */
    static ShaftPlumb wire(int... readings) {
        ShaftPlumb x = new ShaftPlumb();
        x.hang(0, 0);
        read(x, 0, readings);
        return x;
    }

    static ShaftPlumb sixWires() {
        ShaftPlumb x = new ShaftPlumb();
        for (int i = 0; i < 6; i++) {
            x.hang(i, -i);
        }
        return x;
    }

    /** Two still wires, at (0, 0) and at another place, whose rests are equal. */
    private static ShaftPlumb wires(int east, int north) {
        ShaftPlumb x = new ShaftPlumb();
        x.hang(0, 0);
        x.hang(east, north);
        read(x, 0, 100, 100, 100);
        read(x, 1, 100, 100, 100);
        return x;
    }

    static ShaftPlumb wires() {
        return wires(1000, 0);
    }

    /** The join 0 starts to the north at (0, 0), the join 1 with a bearing at another place. */
    static ShaftPlumb joins(int east, int north, int bearing) {
        ShaftPlumb x = wires(east, north);
        x.join(0, 1, 0, 1000, 1000, 0);
        x.join(1, 0, bearing, 1000, 1000, 0);
        return x;
    }

    /** The join 0 starts to the north at (0, 0), the join 1 with a bearing at (1000, 0). */
    static ShaftPlumb joins(int bearing) {
        return joins(1000, 0, bearing);
    }

    static ShaftPlumb joins() {
        return joins(0);
    }

    /** The traverse 0 begins at the join 0 and has so many legs of 1000, which go to the north and back. */
    static ShaftPlumb legs(int count) {
        ShaftPlumb x = joins();
        x.begin(0);
        for (int i = 0; i < count; i++) {
            x.addLeg(0, 0, 1000);
        }
        return x;
    }

    /** The traverse 0 goes from the join 0 by one leg of 1000 to the east and closes on the join 1 with a gap. */
    static ShaftPlumb closed(int gap) {
        ShaftPlumb x = joins(324000 - gap);
        x.begin(0);
        x.addLeg(0, 324000, 1000);
        x.close(0, 1, 648000);
        return x;
    }

    static ShaftPlumb closed() {
        return closed(11);
    }

    /** The traverses 0 and 1 go from (0, 0) and from (1000, 0) to the north by one leg each. */
    static ShaftPlumb headings(int one, int other) {
        ShaftPlumb x = joins();
        x.begin(0);
        x.begin(1);
        x.addLeg(0, 0, one);
        x.addLeg(1, 0, other);
        return x;
    }

    static ShaftPlumb headings() {
        return headings(3000, 3000);
    }

    /** A mine with all the wires, turning points, joins, traverses and legs that it can have, made by 116 calls. */
    static ShaftPlumb full() {
        ShaftPlumb x = new ShaftPlumb();
        for (int wire = 0; wire < 6; wire++) {
            x.hang(1000 * wire, 500 - 100 * wire);
            for (int turn = 0; turn < 9; turn++) {
                x.swing(wire, 500 + wire + turn % 2 * 40);
            }
        }
        for (int join = 0; join < 4; join++) {
            x.join(join, join + 2, 300000 * join, 2000, 3000, 100 * join);
        }
        for (int traverse = 0; traverse < 4; traverse++) {
            x.begin(traverse);
            for (int leg = 0; leg < 12; leg++) {
                x.addLeg(traverse, 50000 * leg + traverse, 1000 * leg + 7);
            }
        }
        return x;
    }
}
