import java.util.ArrayList;
import java.util.Arrays;
import java.util.List;

/** Edges of promises 14, 15 and 16: THE RING, its places, and groups. */
public final class RingGroupEdgesTest {
    private static final Check CHECK = new Check();

    public static void main(String[] args) {
        promise14NoneWithoutThreeNearParts();
        promise14EvenRingsDoNotCount();
        promise14OddRings();
        promise14ShortestComesFirst();
        promise14WayBackIsNoRing();
        promise14StitchIsNotNear();
        promise14OfWhatIsToldNow();
        promise14AllNear();
        promise15PlacesOfTheRing();
        promise15NoPlaceWithoutARing();
        promise15FirstAsARowOfNumbers();
        promise15AnyPartOnEitherWayRound();
        promise16NoParts();
        promise16EachAlone();
        promise16NearJustUnderTheDistance();
        promise16StitchJoins();
        promise16StitchesOnBothSides();
        promise16OverAThirdOne();
        promise16AllParts();
        CHECK.end();
    }

    private static void checkRing(String what, MaskParts x, int... due) {
        CHECK.same("14: " + what, due.length, x.ring());
        for (int k = 0; k < due.length; k++) {
            int place = k;
            CHECK.answers("15: " + what + ", place " + k, due[k], () -> x.ringAt(place));
        }
        CHECK.noIndex("15: " + what + ", behind the last", () -> x.ringAt(due.length));
        CHECK.noIndex("15: " + what + ", before the first", () -> x.ringAt(-1));
    }

    private static int[][] joined(int[][]... rows) {
        List<int[]> all = new ArrayList<>();
        for (int[][] row : rows) {
            all.addAll(Arrays.asList(row));
        }
        return all.toArray(new int[0][]);
    }

    /** Terms: "at least three different parts"; promise 14: "0 if there is no odd one". */
    private static void promise14NoneWithoutThreeNearParts() {
        checkRing("nothing", new MaskParts());
        checkRing("empty shapes", Scenes.shapes(10));
        checkRing("one part", Scenes.dots(1, 0, 0));
        checkRing("two near parts", Scenes.dots(1, 0, 0, 0, 0));
        checkRing("two parts, near at two places", Scenes.graph(2, new int[] {0, 1}, new int[] {1, 0}));
        checkRing("three far parts", Scenes.dots(1, 0, 0, 5, 0, 10, 0));
        checkRing("three in a row", Scenes.graph(3, new int[] {0, 1}, new int[] {1, 2}));
    }

    /** Terms: "ODD ones have an odd length". */
    private static void promise14EvenRingsDoNotCount() {
        checkRing("four", Scenes.graph(4, Scenes.ringEdges(0, 1, 2, 3)));
        checkRing("six", Scenes.graph(6, Scenes.ringEdges(0, 1, 2, 3, 4, 5)));
        checkRing("ten", Scenes.graph(10, Scenes.ringEdges(0, 1, 2, 3, 4, 5, 6, 7, 8, 9)));
    }

    /** Promise 14: "How long THE RING is". */
    private static void promise14OddRings() {
        checkRing("three", Scenes.graph(3, Scenes.ringEdges(0, 1, 2)), 0, 1, 2);
        checkRing("five", Scenes.graph(5, Scenes.ringEdges(0, 1, 2, 3, 4)), 0, 1, 2, 3, 4);
        checkRing("seven", Scenes.graph(7, Scenes.ringEdges(0, 1, 2, 3, 4, 5, 6)), 0, 1, 2, 3, 4, 5, 6);
        checkRing("nine", Scenes.graph(9, Scenes.ringEdges(0, 1, 2, 3, 4, 5, 6, 7, 8)),
                0, 1, 2, 3, 4, 5, 6, 7, 8);
    }

    /** Terms: "THE RING is the shortest odd one". */
    private static void promise14ShortestComesFirst() {
        checkRing("three behind five", Scenes.graph(8,
                joined(Scenes.ringEdges(0, 1, 2, 3, 4), Scenes.ringEdges(5, 6, 7))), 5, 6, 7);
        checkRing("five behind four", Scenes.graph(9,
                joined(Scenes.ringEdges(0, 1, 2, 3), Scenes.ringEdges(4, 5, 6, 7, 8))), 4, 5, 6, 7, 8);
        checkRing("a way across seven", Scenes.graph(7,
                joined(Scenes.ringEdges(0, 1, 2, 3, 4, 5, 6), new int[][] {{2, 6}})), 2, 3, 4, 5, 6);
        checkRing("a way across five", Scenes.graph(5,
                joined(Scenes.ringEdges(0, 1, 2, 3, 4), new int[][] {{2, 4}})), 2, 3, 4);
    }

    /** Terms: "different parts": a way to a ring, round it and back is none itself. */
    private static void promise14WayBackIsNoRing() {
        checkRing("a tail before three", Scenes.graph(5,
                joined(new int[][] {{0, 1}, {1, 2}}, Scenes.ringEdges(2, 3, 4))), 2, 3, 4);
        checkRing("a tail before five", Scenes.graph(6,
                joined(new int[][] {{0, 3}}, Scenes.ringEdges(1, 2, 3, 4, 5))), 1, 2, 3, 4, 5);
    }

    /** Terms: "each near to the next one": a stitch between two parts closes no ring. */
    private static void promise14StitchIsNotNear() {
        MaskParts x = Scenes.shapes(2);
        x.box(0, 0, 0, 1, 1);
        x.box(0, 1, 0, 2, 1);
        x.box(1, 0, 0, 2, 1);
        x.stitch(0, 0, true);
        CHECK.same("14: three parts", 3, x.told(2));
        CHECK.same("14: two pairs", 2, x.told(3));
        checkRing("closed by a stitch alone", x);
    }

    /** THE RING is that of what is told now; colours are nothing to it. */
    private static void promise14OfWhatIsToldNow() {
        MaskParts x = Scenes.triangle();
        checkRing("below the distance", x, 0, 1, 2);
        x.distance(1);
        checkRing("just at the distance", x);
        x.distance(2);
        checkRing("below it again", x, 0, 1, 2);
        x.pre(0, 0, 0);
        x.pre(1, 0, 0);
        x.run(2, 100);
        checkRing("with colours told", x, 0, 1, 2);
        CHECK.noArgument("14: a refused distance", () -> x.distance(0));
        checkRing("behind a refused call", x, 0, 1, 2);
        x.box(0, 50, 50, 51, 51);
        x.stitch(0, 0, true);
        checkRing("a part more", x, 0, 2, 3);
    }

    /** 40 parts, near to all but those of their own shape. */
    private static void promise14AllNear() {
        checkRing("all near", Scenes.full(), 0, 4, 8);
    }

    /** Promise 15: "THE RING's part k": from place 0 to the last. */
    private static void promise15PlacesOfTheRing() {
        MaskParts x = Scenes.graph(4, Scenes.ringEdges(1, 2, 3));
        CHECK.answers("15: the first", 1, () -> x.ringAt(0));
        CHECK.answers("15: the last", 3, () -> x.ringAt(2));
        for (int wrong : new int[] {-1, -3, 3, 4, 40, Integer.MAX_VALUE, Integer.MIN_VALUE}) {
            CHECK.noIndex("15: place " + wrong, () -> x.ringAt(wrong));
        }
    }

    /** "there is no such .. place in the ring". */
    private static void promise15NoPlaceWithoutARing() {
        MaskParts x = Scenes.graph(4, Scenes.ringEdges(0, 1, 2, 3));
        CHECK.noIndex("15: no ring", () -> x.ringAt(0));
        MaskParts y = Scenes.triangle();
        CHECK.answers("15: asked before ring()", 2, () -> y.ringAt(2));
        y.distance(1);
        CHECK.noIndex("15: the ring is no more", () -> y.ringAt(0));
    }

    /** Terms: "of several the first as a row of numbers". */
    private static void promise15FirstAsARowOfNumbers() {
        checkRing("by the first number", Scenes.graph(6,
                joined(Scenes.ringEdges(1, 2, 3), Scenes.ringEdges(0, 4, 5))), 0, 4, 5);
        checkRing("by the second number", Scenes.graph(6,
                joined(Scenes.ringEdges(0, 2, 3), Scenes.ringEdges(0, 1, 5))), 0, 1, 5);
        checkRing("by the third number", Scenes.graph(5,
                joined(Scenes.ringEdges(0, 1, 4), new int[][] {{0, 3}, {3, 1}})), 0, 1, 3);
        checkRing("two of five", Scenes.graph(10,
                joined(Scenes.ringEdges(9, 1, 2, 3, 4), Scenes.ringEdges(5, 0, 7, 6, 8))), 0, 5, 8, 6, 7);
        checkRing("five by its fourth number", Scenes.graph(6,
                joined(Scenes.ringEdges(0, 1, 2, 5, 4), new int[][] {{2, 3}, {3, 4}})), 0, 1, 2, 3, 4);
    }

    /** Terms: "(from any of its parts on, either way round)". */
    private static void promise15AnyPartOnEitherWayRound() {
        int[] order = {0, 1, 2, 3, 4};
        permute(order, 0);
    }

    private static void permute(int[] order, int at) {
        if (at == order.length) {
            checkRing(Arrays.toString(order), Scenes.graph(5, Scenes.ringEdges(order)), leastRow(order));
            return;
        }
        for (int i = at; i < order.length; i++) {
            swap(order, at, i);
            permute(order, at + 1);
            swap(order, at, i);
        }
    }

    private static void swap(int[] row, int i, int j) {
        int kept = row[i];
        row[i] = row[j];
        row[j] = kept;
    }

    private static int[] leastRow(int[] ring) {
        int[] least = null;
        for (int from = 0; from < ring.length; from++) {
            for (int way = -1; way <= 1; way += 2) {
                int[] row = new int[ring.length];
                for (int k = 0; k < row.length; k++) {
                    row[k] = ring[Math.floorMod(from + way * k, ring.length)];
                }
                if (least == null || Arrays.compare(row, least) < 0) {
                    least = row;
                }
            }
        }
        return least;
    }

    /** Promise 16: no parts, no groups. */
    private static void promise16NoParts() {
        CHECK.same("16: nothing", 0, new MaskParts().groups());
        CHECK.same("16: empty shapes", 0, Scenes.shapes(10).groups());
    }

    /** Promise 16: parts that nothing joins. */
    private static void promise16EachAlone() {
        CHECK.same("16: one", 1, Scenes.dots(1, 0, 0).groups());
        CHECK.same("16: ten", 10, Scenes.graph(10).groups());
        MaskParts x = Scenes.shapes(1);
        x.box(0, 0, 0, 1, 1);
        x.box(0, 5000, 5000, 5001, 5001);
        CHECK.same("16: far boxes of one part", 1, x.groups());
    }

    /** Promise 16: "if they are near". */
    private static void promise16NearJustUnderTheDistance() {
        MaskParts x = Scenes.dots(4, 0, 0, 5, 0);
        CHECK.same("16: just at the distance", 2, x.groups());
        x.distance(5);
        CHECK.same("16: just under the distance", 1, x.groups());
    }

    /** Promise 16: "or a stitch is between them", one that counts. */
    private static void promise16StitchJoins() {
        MaskParts x = Scenes.shapes(2);
        for (int i = 0; i < 4; i++) {
            x.box(0, 100 * i, 0, 100 * i + 1, 1);
            x.stitch(0, i, true);
        }
        x.box(1, 0, 500, 1, 501);
        x.stitch(1, 0, true);
        CHECK.same("16: five parts", 5, x.told(2));
        CHECK.same("16: four are joined by stitches", 2, x.groups());
        x.stitch(0, 1, false);
        CHECK.same("16: or are one part", 2, x.groups());
        CHECK.same("16: nothing is near", 0, x.told(3));
    }

    /** Promise 16: each part of a stitched row brings all others, the first, those between, the last. */
    private static void promise16StitchesOnBothSides() {
        for (int near = 0; near < 4; near++) {
            MaskParts x = Scenes.shapes(3);
            x.distance(3);
            x.box(0, 100 * near + 2, 0, 100 * near + 3, 1);
            x.box(2, 0, 500, 1, 501);
            for (int i = 0; i < 4; i++) {
                x.box(1, 100 * i, 0, 100 * i + 1, 1);
                x.stitch(1, i, true);
            }
            CHECK.same("16: near to part " + near + " of four", 2, x.groups());
        }
    }

    /** Promise 16: "or both are of one with a third one". */
    private static void promise16OverAThirdOne() {
        CHECK.same("16: a row", 1, Scenes.graph(4, new int[] {0, 3}, new int[] {3, 1}, new int[] {1, 2}).groups());
        CHECK.same("16: a late one joins", 1, Scenes.graph(5, new int[] {0, 4}, new int[] {1, 4},
                new int[] {2, 4}, new int[] {3, 4}).groups());
        CHECK.same("16: two rings", 2, Scenes.graph(6,
                joined(Scenes.ringEdges(0, 2, 4), Scenes.ringEdges(1, 3, 5))).groups());
        MaskParts x = Scenes.shapes(3);
        x.distance(3);
        x.box(0, 0, 0, 1, 1);
        x.box(1, 500, 0, 501, 1);
        x.box(2, 2, 0, 3, 1);
        x.box(2, 498, 0, 499, 1);
        x.stitch(2, 0, true);
        CHECK.same("16: near, a stitch, near", 1, x.groups());
    }

    /** 40 parts, one group, with and without near ones. */
    private static void promise16AllParts() {
        CHECK.same("16: all near", 1, Scenes.full().groups());
        MaskParts x = Scenes.shapes(10);
        x.distance(1);
        for (int i = 0; i < 40; i++) {
            x.box(i / 4, 10 * i, 0, 10 * i + 1, 1);
            x.stitch(i / 4, i % 4, true);
        }
        CHECK.same("16: 40 parts", 40, x.told(2));
        CHECK.same("16: a group for each shape", 10, x.groups());
    }
}
