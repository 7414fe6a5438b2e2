/** Promises 14 and 15: the ring, and its parts. */
public final class RingTest {
    private static final Check CHECK = new Check();

    public static void main(String[] args) {
        promise14RingOfThree();
        promise14NoOddRing();
        promise14RingOfFive();
        promise14ShortestComesFirst();
        promise15LeastRowOfSeveral();
        promise14RingOverStitchedParts();
        promise14RingNeedsNoRunAndKeepsIt();
        promise15LongestRing();
        CHECK.end();
    }

    private static void checkRing(String what, MaskParts x, int... due) {
        CHECK.same(what + ": length", due.length, x.ring());
        for (int k = 0; k < due.length; k++) {
            int place = k;
            CHECK.answers(what + ": place " + k, due[k], () -> x.ringAt(place));
        }
        CHECK.noIndex(what + ": place behind", () -> x.ringAt(due.length));
        CHECK.noIndex(what + ": place -1", () -> x.ringAt(-1));
        CHECK.noIndex(what + ": far place", () -> x.ringAt(Integer.MAX_VALUE));
    }

    private static void promise14RingOfThree() {
        checkRing("triangle", Scenes.triangle(), 0, 1, 2);
        checkRing("behind a part alone", Scenes.dots(2, 50, 50, 0, 0, 2, 0, 1, 2), 1, 2, 3);
    }

    private static void promise14NoOddRing() {
        checkRing("nothing", new MaskParts());
        checkRing("one", Scenes.dots(5, 0, 0));
        checkRing("two", Scenes.dots(5, 0, 0, 0, 0));
        checkRing("a row of three", Scenes.dots(3, 0, 0, 2, 0, 4, 0));
        // Straight gaps of 3 are near, slanting ones of 3 and 3 are not.
        checkRing("four in a square", Scenes.dots(4, 0, 0, 4, 0, 4, 4, 0, 4));
    }

    private static void promise14RingOfFive() {
        MaskParts x = Scenes.shapes(5);
        x.distance(3);
        x.box(0, 0, 0, 2, 2);
        x.box(1, 6, 3, 8, 5);
        x.box(2, 4, 0, 6, 2);
        x.box(3, 2, 6, 4, 8);
        x.box(4, -2, 3, 0, 5);
        checkRing("five", x, 0, 2, 1, 3, 4);
    }

    private static void promise14ShortestComesFirst() {
        MaskParts x = Scenes.shapes(8);
        x.distance(3);
        x.box(0, 0, 0, 2, 2);
        x.box(1, 4, 0, 6, 2);
        x.box(2, 6, 3, 8, 5);
        x.box(3, 2, 6, 4, 8);
        x.box(4, -2, 3, 0, 5);
        checkRing("five alone", x, 0, 1, 2, 3, 4);
        x.box(5, 100, 0, 101, 1);
        x.box(6, 100, 0, 101, 1);
        x.box(7, 100, 0, 101, 1);
        checkRing("three of greater numbers", x, 5, 6, 7);
        x.distance(1);
        checkRing("they still overlap", x, 5, 6, 7);
    }

    private static void promise15LeastRowOfSeveral() {
        MaskParts x = Scenes.dots(5, 0, 0, 0, 0, 0, 0, 0, 0);
        checkRing("all four are near", x, 0, 1, 2);
        // Part 0 is near to all but 1, so the least row leaves 1 out.
        MaskParts y = Scenes.dots(3, 0, 0, 6, 0, 2, 0, 2, 1, 2, 2);
        checkRing("1 is far from 0", y, 0, 2, 3);
    }

    private static void promise14RingOverStitchedParts() {
        MaskParts x = Scenes.shapes(3);
        x.distance(3);
        x.box(0, 0, 0, 1, 1);
        x.box(0, 100, 0, 101, 1);
        x.box(1, 2, 0, 3, 1);
        x.box(1, 50, 0, 51, 1);
        x.box(2, 102, 0, 103, 1);
        x.box(2, 52, 0, 53, 1);
        checkRing("three shapes", x, 0, 1, 2);
        x.stitch(0, 0, true);
        checkRing("a stitch opens the ring", x);
        x.stitch(0, 0, false);
        checkRing("and it is closed again", x, 0, 1, 2);
        x.pre(0, 0, 1);
        checkRing("colours do not matter", x, 0, 1, 2);
    }

    private static void promise14RingNeedsNoRunAndKeepsIt() {
        MaskParts x = Scenes.triangle();
        x.run(3, 100);
        CHECK.same("ring behind a run", 3, x.ring());
        CHECK.same("place 2", 2, x.ringAt(2));
        CHECK.same("the colours stay", 2, x.colour(2, 0));
        CHECK.same("the steps stay", 6, x.steps());
    }

    /** 39 parts round a square; the one that is twice as long makes the number odd. */
    private static void promise15LongestRing() {
        MaskParts x = Scenes.shapes(10);
        x.distance(4);
        int[] due = new int[39];
        for (int i = 0; i < 39; i++) {
            int cell = i == 0 ? 0 : i + 1;
            int cx = 4 * column(cell);
            int cy = 4 * column((cell + 30) % 40);
            x.box(i % 10, cx, cy, cx + (i == 0 ? 5 : 1), cy + 1);
            x.stitch(i % 10, i / 10, true);
            due[i] = i % 10 * 4 + i / 10;
        }
        CHECK.same("parts of the longest", 39, x.told(2));
        CHECK.same("pairs of the longest", 39, x.told(3));
        checkRing("longest", x, due);
        CHECK.answers("no two masks", 2, () -> x.run(2, 20000));
        CHECK.answers("but three", 0, () -> x.run(3, 20000));
    }

    private static int column(int cell) {
        if (cell <= 10) {
            return cell;
        }
        if (cell <= 20) {
            return 10;
        }
        return cell <= 30 ? 30 - cell : 0;
    }
}
