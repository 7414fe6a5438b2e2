/** Edges of promises 2 and 8: which distances are told, when two parts are NEAR, which pairs there are. */
public final class DistanceNearEdgesTest {
    private static final Check CHECK = new Check();
    private static final int MOST = Integer.MAX_VALUE;
    private static final int LEAST = Integer.MIN_VALUE;

    public static void main(String[] args) {
        promise2TenAtFirst();
        promise2From1To1000();
        promise2TooSmallOrTooLarge();
        promise2AnswersWhatItWas();
        promise8TouchingIsNear();
        promise8OverlappingIsNear();
        promise8JustAtTheDistance();
        promise8JustUnderTheDistance();
        promise8FirstDistanceHolds();
        promise8FarEnds();
        promise8AnyTwoBoxesMakePartsNear();
        promise8PartsOfOneShapeAreNeverNear();
        promise8StitchPartsWhatIsNear();
        promise8NearAnewWithEachTelling();
        promise8PairsByLesserThenGreater();
        promise8PairThatIsNone();
        promise8WhichThatIsNone();
        promise8IndexComesBeforeArgument();
        CHECK.end();
    }

    /** Terms: "10 at first". */
    private static void promise2TenAtFirst() {
        MaskParts x = new MaskParts();
        CHECK.same("2: told at first", 10, x.told(5));
        CHECK.answers("2: what it was at first", 10, () -> x.distance(11));
    }

    /** Terms: "the DISTANCE (1 .. 1000". */
    private static void promise2From1To1000() {
        MaskParts x = new MaskParts();
        int before = 10;
        for (int d : new int[] {1, 2, 999, 1000, 1, 1000}) {
            CHECK.answers("2: distance " + d, before, () -> x.distance(d));
            CHECK.same("2: it is " + d, d, x.told(5));
            before = d;
        }
    }

    /** "another number is none that is told". */
    private static void promise2TooSmallOrTooLarge() {
        MaskParts x = new MaskParts();
        for (int wrong : new int[] {0, -1, -10, 1001, 10000, MOST, LEAST}) {
            CHECK.noArgument("2: distance " + wrong, () -> x.distance(wrong));
            CHECK.same("2: it stays", 10, x.told(5));
        }
    }

    /** Promise 2: "what it was". */
    private static void promise2AnswersWhatItWas() {
        MaskParts x = new MaskParts();
        x.distance(5);
        CHECK.answers("2: the same again", 5, () -> x.distance(5));
        CHECK.noArgument("2: a refused one", () -> x.distance(0));
        CHECK.answers("2: a refused one leaves what it was", 5, () -> x.distance(7));
        CHECK.answers("2: and so on", 7, () -> x.distance(5));
    }

    /** Terms: "0 if they touch": near even with the least distance. */
    private static void promise8TouchingIsNear() {
        checkNear("right side", true, 1, 10, 2, 14, 5);
        checkNear("left side", true, 1, -4, 2, 0, 5);
        checkNear("upper side", true, 1, 3, 10, 5, 12);
        checkNear("lower side", true, 1, 3, -2, 5, 0);
        checkNear("upper right corner", true, 1, 10, 10, 11, 11);
        checkNear("lower left corner", true, 1, -1, -1, 0, 0);
        checkNear("upper left corner", true, 1, -1, 10, 0, 11);
        checkNear("lower right corner", true, 1, 10, -1, 11, 0);
    }

    /** Terms: "0 if they .. overlap". */
    private static void promise8OverlappingIsNear() {
        checkNear("the same", true, 1, 0, 0, 10, 10);
        checkNear("inside", true, 1, 4, 4, 5, 5);
        checkNear("round it", true, 1, -5, -5, 15, 15);
        checkNear("a corner of it", true, 1, 9, 9, 20, 20);
        checkNear("across", true, 1, -5, 4, 15, 6);
        checkNear("upwards across", true, 1, 4, -5, 6, 15);
    }

    /** Terms: "is less than the square of the DISTANCE": just at it is not near. */
    private static void promise8JustAtTheDistance() {
        int[][] gaps = {
            {1, 0, 1}, {2, 0, 2}, {10, 0, 10}, {999, 0, 999}, {1000, 0, 1000},
            {3, 4, 5}, {6, 8, 10}, {5, 12, 13}, {600, 800, 1000}, {280, 960, 1000},
        };
        for (int[] gap : gaps) {
            checkAllWays("just at", false, gap[2], gap[0], gap[1]);
        }
        checkAllWays("slanting, above", false, 1, 1, 1);
        checkAllWays("slanting, above", false, 10, 7, 8);
    }

    /** Terms: "is less than the square of the DISTANCE": just under it is near. */
    private static void promise8JustUnderTheDistance() {
        int[][] gaps = {
            {1, 0, 2}, {9, 0, 10}, {999, 0, 1000}, {3, 4, 6}, {2, 4, 5}, {3, 3, 5},
            {7, 7, 10}, {9, 4, 10}, {599, 800, 1000}, {600, 799, 1000}, {1, 1, 2},
        };
        for (int[] gap : gaps) {
            checkAllWays("just under", true, gap[2], gap[0], gap[1]);
        }
    }

    /** Terms: "10 at first" is what near goes by when no distance was told. */
    private static void promise8FirstDistanceHolds() {
        MaskParts x = Scenes.shapes(3);
        x.box(0, 0, 0, 1, 1);
        x.box(1, 10, 0, 11, 1);
        x.box(2, 21, 0, 22, 1);
        CHECK.same("8: a way of 9 is near, a way of 10 is not", 1, x.told(3));
        CHECK.same("8: the pair's greater one", 1, x.pair(0, 1));
    }

    /** The longest ways there are. */
    private static void promise8FarEnds() {
        MaskParts x = Scenes.shapes(4);
        x.distance(1000);
        x.box(0, -10000, -10000, -9999, -9999);
        x.box(1, 9999, 9999, 10000, 10000);
        x.box(2, -10000, 9999, -9999, 10000);
        x.box(3, 9999, -10000, 10000, -9999);
        CHECK.same("8: from end to end", 0, x.told(3));
        x.box(0, -10000, -10000, 10000, 10000);
        CHECK.same("8: all of it", 3, x.told(3));
    }

    /** Terms: "if two of their boxes are less than the DISTANCE apart". */
    private static void promise8AnyTwoBoxesMakePartsNear() {
        for (int i = 0; i < 4; i++) {
            for (int j = 0; j < 4; j++) {
                MaskParts x = Scenes.shapes(2);
                for (int k = 0; k < 4; k++) {
                    int at = k == i ? 0 : 100 + 100 * k;
                    int other = k == j ? 10 : -100 - 100 * k;
                    x.box(0, at, 0, at + 1, 1);
                    x.box(1, other, 0, other + 1, 1);
                }
                CHECK.same("8: boxes " + i + " and " + j + " alone are near", 1, x.told(3));
            }
        }
    }

    /** Terms: "Two parts of different shapes". */
    private static void promise8PartsOfOneShapeAreNeverNear() {
        MaskParts x = Scenes.shapes(2);
        for (int i = 0; i < 4; i++) {
            x.box(0, i, 0, i + 1, 1);
            x.stitch(0, i, true);
        }
        CHECK.same("8: four parts of one shape", 4, x.told(2));
        CHECK.same("8: none is near", 0, x.told(3));
        x.box(1, 0, 0, 4, 1);
        CHECK.same("8: all are near to another shape", 4, x.told(3));
        CHECK.same("8: the last pair's greater one", 4, x.pair(3, 1));
    }

    /** Terms: parts are near by their own boxes alone. */
    private static void promise8StitchPartsWhatIsNear() {
        MaskParts x = Scenes.shapes(2);
        x.distance(3);
        x.box(0, 0, 0, 1, 1);
        x.box(0, 100, 0, 101, 1);
        x.box(1, 102, 0, 103, 1);
        CHECK.same("8: near as one part", 0, x.pair(0, 0));
        x.stitch(0, 0, true);
        CHECK.same("8: one pair still", 1, x.told(3));
        CHECK.same("8: the second part is near", 1, x.pair(0, 0));
        CHECK.same("8: to the other shape", 2, x.pair(0, 1));
    }

    /** Pairs are those of what is told now. */
    private static void promise8NearAnewWithEachTelling() {
        MaskParts x = Scenes.dots(5, 0, 0, 5, 0);
        CHECK.same("8: a way of 4 below 5", 1, x.told(3));
        x.distance(4);
        CHECK.same("8: just at 4", 0, x.told(3));
        CHECK.noIndex("8: the pair is not there", () -> x.pair(0, 0));
        x.box(1, 2, 0, 3, 1);
        CHECK.same("8: a nearer box", 1, x.told(3));
        x.shape();
        x.box(2, 0, 0, 1, 1);
        CHECK.same("8: a third shape", 3, x.told(3));
        CHECK.noArgument("8: a refused distance", () -> x.distance(1001));
        CHECK.same("8: changes no pair", 3, x.told(3));
    }

    /** Promise 8: "by its lesser part, then by its greater one". */
    private static void promise8PairsByLesserThenGreater() {
        int[][] edges = {{4, 2}, {3, 1}, {0, 4}, {3, 0}, {2, 1}, {1, 0}};
        int[][] due = {{0, 1}, {0, 3}, {0, 4}, {1, 2}, {1, 3}, {2, 4}};
        MaskParts x = Scenes.graph(5, edges);
        CHECK.same("8: pairs", due.length, x.told(3));
        for (int k = 0; k < due.length; k++) {
            int at = k;
            CHECK.answers("8: lesser of " + k, due[k][0], () -> x.pair(at, 0));
            CHECK.answers("8: greater of " + k, due[k][1], () -> x.pair(at, 1));
        }
    }

    /** "there is no such .. pair". */
    private static void promise8PairThatIsNone() {
        MaskParts x = Scenes.triangle();
        CHECK.answers("8: the last pair", 2, () -> x.pair(2, 1));
        for (int wrong : new int[] {-1, 3, 4, MOST, LEAST}) {
            CHECK.noIndex("8: pair " + wrong, () -> x.pair(wrong, 0));
            CHECK.noIndex("8: pair " + wrong + ", greater", () -> x.pair(wrong, 1));
        }
        MaskParts far = Scenes.dots(1, 0, 0, 5, 5);
        CHECK.noIndex("8: no pair at all", () -> far.pair(0, 0));
        MaskParts full = Scenes.full();
        CHECK.answers("8: the last of all there can be", 39, () -> full.pair(719, 1));
        CHECK.noIndex("8: one more", () -> full.pair(720, 0));
    }

    /** Promise 8: "which = 0 the lesser, 1 the greater one". */
    private static void promise8WhichThatIsNone() {
        MaskParts x = Scenes.triangle();
        for (int wrong : new int[] {-1, 2, 3, MOST, LEAST}) {
            for (int k = 0; k < 3; k++) {
                int at = k;
                CHECK.noArgument("8: which " + wrong, () -> x.pair(at, wrong));
            }
        }
    }

    /** "Of several the first one that a call names". */
    private static void promise8IndexComesBeforeArgument() {
        MaskParts x = Scenes.triangle();
        CHECK.noIndex("8: no pair 3, no which 2", () -> x.pair(3, 2));
        CHECK.noIndex("8: no pair -1, no which -1", () -> x.pair(-1, -1));
        MaskParts none = new MaskParts();
        CHECK.noIndex("8: no pair at all, no which 2", () -> none.pair(0, 2));
    }

    /** A box of 10 by 10 and one that is so far to each side of it in turn. */
    private static void checkAllWays(String what, boolean due, int distance, int across, int along) {
        int[][] ways = {{across, along}, {along, across}};
        for (int[] way : ways) {
            String text = what + " " + distance + " by " + way[0] + " and " + way[1];
            int right = 10 + way[0];
            int left = -way[0];
            int up = 10 + way[1];
            int down = -way[1];
            checkNear(text + ", up right", due, distance, right, up, right + 3, up + 2);
            checkNear(text + ", down right", due, distance, right, down - 2, right + 3, down);
            checkNear(text + ", up left", due, distance, left - 3, up, left, up + 2);
            checkNear(text + ", down left", due, distance, left - 3, down - 2, left, down);
        }
    }

    private static void checkNear(String what, boolean due, int distance, int x, int y, int x2, int y2) {
        for (int first = 0; first < 2; first++) {
            MaskParts m = Scenes.shapes(2);
            m.distance(distance);
            m.box(first, 0, 0, 10, 10);
            m.box(1 - first, x, y, x2, y2);
            CHECK.same("8: " + what + ", first " + first, due ? 1 : 0, m.told(3));
        }
    }
}
