/** Mines that several tests start from. */
final class Mines {
    private Mines() {
    }

    /** Reads the turning points of a wire. */
    static void read(ShaftPlumb x, int wire, int... readings) {
        for (int reading : readings) {
            x.swing(wire, reading);
        }
    }

    static void type(ShaftPlumb x, String text) {
        for (int i = 0; i < text.length(); i++) {
            x.type(text.charAt(i));
        }
    }

    /** Two still wires, at (0, 0) and at (1000, 0), whose rests are equal. */
    static ShaftPlumb wires() {
        ShaftPlumb x = new ShaftPlumb();
        x.hang(0, 0);
        x.hang(1000, 0);
        read(x, 0, 100, 100, 100);
        read(x, 1, 100, 100, 100);
        return x;
    }

    /** The join 0 starts with the bearing 0 at (0, 0), the join 1 with another bearing at (1000, 0). */
    static ShaftPlumb joins(int bearing) {
        ShaftPlumb x = wires();
        x.join(0, 1, 0, 1000, 1000, 0);
        x.join(1, 0, bearing, 1000, 1000, 0);
        return x;
    }

    /** The traverse 0 goes from the join 0 by one leg of 1000 to the east and closes on the join 1 with a gap. */
    static ShaftPlumb closed(int gap) {
        ShaftPlumb x = joins(324000 - gap);
        x.begin(0);
        x.addLeg(0, 324000, 1000);
        x.close(0, 1, 648000);
        return x;
    }
}
