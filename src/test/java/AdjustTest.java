/** Promise 15: adjust. */
public final class AdjustTest {
    public static void main(String[] args) {
        adjustTakesTraverses();
        adjustOfOpenTraverse();
        adjustInTrouble();
        adjustTellsGap();
        adjustAtTolerance();
        adjustOfNoGap();
        adjustSharesEvenly();
        adjustIsRounded();
        adjustLeavesToLongestLegs();
        adjustLeavesToSmallestNumbers();
        adjustOfOneLeg();
        adjustOfTwelveLegs();
        adjustForgetsDroppedLegs();
        adjustIsNormed();
        adjustOfLeftIsNormed();
        adjustMakesGapZero();
        adjustLeavesTheRest();
        adjustIsUndoable();
        Check.end("AdjustTest");
    }

    // ---- what is refused

    private static void adjustTakesTraverses() {
        Check.sentence("Promise 15: there is no such traverse");
        Check.index(Mines::joins, x -> x.adjust(0));
        Check.range(Check.INDEX, Mines::closed, 0, 0, (x, traverse) -> x.adjust(traverse));
        Check.index(Mines::full, x -> x.adjust(4));
    }

    private static void adjustOfOpenTraverse() {
        Check.sentence("Promise 15: it is not closed");
        Check.state(() -> Mines.legs(0), x -> x.adjust(0));
        Check.state(() -> Mines.legs(1), x -> x.adjust(0));
        Check.state(() -> Mines.legs(12), x -> x.adjust(0));
    }

    private static ShaftPlumb stilled(int wire) {
        ShaftPlumb x = Mines.closed();
        x.still(wire);
        return x;
    }

    private static ShaftPlumb lastJoinInTrouble() {
        ShaftPlumb x = Mines.legs(1);
        x.join(1, 0, 0, 100, 301, 0);
        x.close(0, 2, 648000);
        return x;
    }

    private static void adjustInTrouble() {
        Check.sentence("Promise 15: it is in trouble 6, 7 or 8");
        Check.state(() -> stilled(0), x -> x.adjust(0));
        Check.state(() -> stilled(1), x -> x.adjust(0));
        Check.state(AdjustTest::lastJoinInTrouble, x -> x.adjust(0));
        Check.state(() -> Mines.closed(31), x -> x.adjust(0));
        Check.state(() -> Mines.closed(-31), x -> x.adjust(0));
    }

    // ---- what is taken away

    private static void adjustTellsGap() {
        Check.sentence("Promise 15: returns the gap that it had");
        for (int gap = -30; gap <= 30; gap++) {
            ShaftPlumb x = Mines.closed(gap);
            Check.due(x.traverse(0, 5), gap);
            Check.due(x.adjust(0), gap);
            Check.due(x.traverse(0, 5), 0);
        }
    }

    private static void adjustAtTolerance() {
        Check.sentence("Promise 15: a gap as great as the tolerance is taken, one second more is not");
        Check.due(Mines.closed(30).adjust(0), 30);
        Check.due(Mines.closed(-30).adjust(0), -30);
        Check.state(() -> Mines.closed(31), x -> x.adjust(0));
        ShaftPlumb x = Mines.closed(31);
        x.set(1, 31);
        Check.due(x.adjust(0), 31);
    }

    private static void adjustOfNoGap() {
        Check.sentence("Promise 15: without a gap nothing changes");
        ShaftPlumb x = Mines.closed(0);
        Check.due(x.adjust(0), 0);
        Check.due(x.leg(0, 0, 0), 324000);
        Check.due(x.traverse(0, 3), 648000);
        ShaftPlumb again = Mines.closed(11);
        Check.due(again.adjust(0), 11);
        Check.due(again.adjust(0), 0);
    }

    /** Legs of these lengths, the angle 0 each, and a closing angle that makes the gap; then they are adjusted. */
    private static ShaftPlumb adjusted(int gap, int... lengths) {
        ShaftPlumb x = Mines.joins();
        x.set(1, 600);
        x.begin(0);
        for (int length : lengths) {
            x.addLeg(0, 0, length);
        }
        x.close(0, 1, Math.floorMod(gap - lengths.length * 648000, 1296000));
        Check.due(x.adjust(0), gap);
        Check.due(x.traverse(0, 5), 0);
        return x;
    }

    /** What has been taken away from the angles of the legs, and from the closing one. */
    private static void taken(ShaftPlumb x, int gap, int fromClosing, int... fromLegs) {
        for (int i = 0; i < fromLegs.length; i++) {
            Check.due(x.leg(0, i, 0), Math.floorMod(-fromLegs[i], 1296000));
        }
        Check.due(x.traverse(0, 3), Math.floorMod(gap - fromLegs.length * 648000 - fromClosing, 1296000));
    }

    private static void taken(int gap, int[] lengths, int fromClosing, int... fromLegs) {
        taken(adjusted(gap, lengths), gap, fromClosing, fromLegs);
    }

    private static void adjustSharesEvenly() {
        Check.sentence("TRAVERSES: to adjust, each of its angles becomes its angle minus gap / m");
        taken(4, new int[] {5, 9, 9}, 1, 1, 1, 1);
        taken(-4, new int[] {5, 9, 9}, -1, -1, -1, -1);
        taken(40, new int[] {9, 5, 7}, 10, 10, 10, 10);
    }

    private static void adjustIsRounded() {
        Check.sentence("TRAVERSES: gap / m is rounded toward 0, what is left has the sign of the gap");
        taken(5, new int[] {5, 9, 8}, 1, 1, 2, 1);
        taken(-5, new int[] {5, 9, 8}, -1, -1, -2, -1);
        taken(7, new int[] {5, 9, 8}, 1, 2, 2, 2);
        taken(-7, new int[] {5, 9, 8}, -1, -2, -2, -2);
        taken(3, new int[] {5, 9, 8}, 0, 1, 1, 1);
        taken(-3, new int[] {5, 9, 8}, 0, -1, -1, -1);
    }

    private static void adjustLeavesToLongestLegs() {
        Check.sentence("TRAVERSES: what is left is taken away from the angles of the longest legs, one from each");
        taken(1, new int[] {9, 5, 10}, 0, 0, 0, 1);
        taken(2, new int[] {9, 5, 10}, 0, 1, 0, 1);
        taken(3, new int[] {9, 5, 10}, 0, 1, 1, 1);
        taken(-1, new int[] {9, 5, 10}, 0, 0, 0, -1);
        taken(-2, new int[] {9, 5, 10}, 0, -1, 0, -1);
        taken(6, new int[] {1, 200000, 199999}, 1, 1, 2, 2);
    }

    private static void adjustLeavesToSmallestNumbers() {
        Check.sentence("TRAVERSES: of equal ones those with the smallest numbers");
        taken(1, new int[] {9, 9, 9}, 0, 1, 0, 0);
        taken(2, new int[] {9, 9, 9}, 0, 1, 1, 0);
        taken(3, new int[] {9, 9, 9}, 0, 1, 1, 1);
        taken(-2, new int[] {9, 9, 9}, 0, -1, -1, 0);
        taken(1, new int[] {5, 9, 9}, 0, 0, 1, 0);
        taken(2, new int[] {5, 9, 5}, 0, 1, 1, 0);
    }

    private static void adjustOfOneLeg() {
        Check.sentence("TRAVERSES: to adjust just one leg, m is 2");
        taken(1, new int[] {7}, 0, 1);
        taken(2, new int[] {7}, 1, 1);
        taken(-1, new int[] {7}, 0, -1);
        taken(11, new int[] {7}, 5, 6);
        taken(-600, new int[] {7}, -300, -300);
        taken(599, new int[] {7}, 299, 300);
    }

    private static void adjustOfTwelveLegs() {
        Check.sentence("TRAVERSES: to adjust 12 legs, m is 13; the greatest gap is 600 * 3");
        int[] lengths = {1, 2, 3, 4, 5, 6, 6, 5, 4, 3, 2, 1};
        taken(1800, lengths, 138, 138, 138, 138, 139, 139, 139, 139, 139, 139, 138, 138, 138);
        taken(-1800, lengths, -138, -138, -138, -138, -139, -139, -139, -139, -139, -139, -138, -138, -138);
        taken(5, lengths, 0, 0, 0, 0, 1, 1, 1, 1, 1, 0, 0, 0, 0);
        taken(12, lengths, 0, 1, 1, 1, 1, 1, 1, 1, 1, 1, 1, 1, 1);
        taken(13, lengths, 1, 1, 1, 1, 1, 1, 1, 1, 1, 1, 1, 1, 1);
        taken(1, new int[] {1, 2, 3, 4, 5, 6, 7, 8, 9, 10, 11, 12}, 0, 0, 0, 0, 0, 0, 0, 0, 0, 0, 0, 0, 1);
        Check.state(AdjustTest::tooFarApart, x -> x.adjust(0));
    }

    private static void adjustForgetsDroppedLegs() {
        Check.sentence("TRAVERSES: legs that have been dropped are not among the longest ones");
        ShaftPlumb x = Mines.joins(1295999);
        x.begin(0);
        x.addLeg(0, 0, 5);
        x.addLeg(0, 0, 4);
        x.addLeg(0, 0, 200000);
        x.dropLeg(0);
        x.close(0, 1, 0);
        Check.due(x.adjust(0), 1);
        Check.due(x.leg(0, 0, 0), 1295999);
        Check.due(x.leg(0, 1, 0), 0);
    }

    private static ShaftPlumb tooFarApart() {
        ShaftPlumb x = Mines.legs(12);
        x.set(1, 600);
        x.close(0, 1, 1801);
        return x;
    }

    /** A closed traverse of one leg; the join on which it closes has the start that makes the gap. */
    private static ShaftPlumb wrapped(int angle, int closing, int gap) {
        ShaftPlumb x = Mines.joins(Math.floorMod(angle + closing + 648000 - gap, 1296000));
        x.begin(0);
        x.addLeg(0, angle, 10);
        x.close(0, 1, closing);
        Check.due(x.adjust(0), gap);
        return x;
    }

    private static void adjustIsNormed() {
        Check.sentence("ANGLES: each angle is normed when gap / m has been taken away");
        ShaftPlumb down = wrapped(0, 0, 2);
        Check.due(down.leg(0, 0, 0), 1295999);
        Check.due(down.traverse(0, 3), 1295999);
        ShaftPlumb up = wrapped(1295999, 1295999, -2);
        Check.due(up.leg(0, 0, 0), 0);
        Check.due(up.traverse(0, 3), 0);
        ShaftPlumb least = wrapped(1, 1, 2);
        Check.due(least.leg(0, 0, 0), 0);
        Check.due(least.traverse(0, 3), 0);
        ShaftPlumb greatest = wrapped(1295998, 1295998, -2);
        Check.due(greatest.leg(0, 0, 0), 1295999);
        Check.due(greatest.traverse(0, 3), 1295999);
    }

    private static void adjustOfLeftIsNormed() {
        Check.sentence("ANGLES: each angle is normed when a second of what is left has been taken away");
        Check.due(wrapped(0, 5, 1).leg(0, 0, 0), 1295999);
        Check.due(wrapped(1295999, 5, -1).leg(0, 0, 0), 0);
        Check.due(wrapped(1, 5, 3).leg(0, 0, 0), 1295999);
        Check.due(wrapped(1295998, 5, -3).leg(0, 0, 0), 0);
        Check.due(wrapped(0, 0, 1).traverse(0, 3), 0);
        Check.due(wrapped(0, 1295999, -1).traverse(0, 3), 1295999);
    }

    private static void adjustMakesGapZero() {
        Check.sentence("TRAVERSES: the gap is 0 then, and bearings and coordinates follow the new angles");
        ShaftPlumb x = Mines.closed(11);
        Check.due(x.adjust(0), 11);
        Check.due(x.traverse(0, 5), 0);
        Check.due(x.traverse(0, 4), 0);
        Check.due(x.leg(0, 0, 2), 324000 - 6);
        ShaftPlumb far = adjusted(-1800, 200000, 1, 1, 1, 1, 1, 1, 1, 1, 1, 1, 1);
        Check.due(far.leg(0, 0, 2), 139);
        Check.due(far.leg(0, 0, 3), 200000L * far.sine(139) / 10000);
    }

    /** The traverses 0 and 1 close with a gap of 11 each. */
    private static ShaftPlumb closedTwice() {
        ShaftPlumb x = Mines.closed(11);
        x.begin(0);
        x.addLeg(1, 324000, 1000);
        x.close(1, 1, 648000);
        return x;
    }

    private static void adjustLeavesTheRest() {
        Check.sentence("Promise 15: no other traverse, and nothing else of this one, is changed");
        ShaftPlumb x = closedTwice();
        Check.due(x.adjust(1), 11);
        Check.due(x.traverse(1, 5), 0);
        Check.due(x.leg(1, 0, 0), 324000 - 6);
        Check.due(x.leg(1, 0, 1), 1000);
        Check.due(x.traverse(1, 0), 0);
        Check.due(x.traverse(1, 2), 1);
        Check.due(x.leg(0, 0, 0), 324000);
        Check.due(x.traverse(0, 3), 648000);
        Check.due(x.traverse(0, 5), 11);
        for (int join = 0; join < 2; join++) {
            for (int what = 0; what <= 7; what++) {
                Check.due(x.joinOf(join, what), closedTwice().joinOf(join, what));
            }
        }
    }

    private static void adjustIsUndoable() {
        Check.sentence("Promise 15: undoable, also if there is no gap");
        Check.undoable(Mines::closed, x -> x.adjust(0));
        Check.undoable(() -> Mines.closed(0), x -> x.adjust(0));
        ShaftPlumb x = Mines.closed(11);
        x.adjust(0);
        x.undo();
        Check.due(x.leg(0, 0, 0), 324000);
        Check.due(x.traverse(0, 3), 648000);
        Check.due(x.traverse(0, 5), 11);
    }
}
