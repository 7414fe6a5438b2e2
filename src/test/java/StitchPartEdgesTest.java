/** Edges of promises 5 and 7: when a stitch counts, and which part a box is in. */
public final class StitchPartEdgesTest {
    private static final Check CHECK = new Check();
    private static final int MOST = Integer.MAX_VALUE;
    private static final int LEAST = Integer.MIN_VALUE;

    public static void main(String[] args) {
        promise5NoneIsAllowedAtFirst();
        promise5AnswersWhetherItWas();
        promise5CountsWhenThereIsANextBox();
        promise5NeverCountsBehindTheFourthBox();
        promise5DoesNotReachTheNextShape();
        promise5NoLongerAllowed();
        promise5BoxThatIsNone();
        promise7EachWayToPartAShape();
        promise7ByShapesThenByBoxes();
        promise7EmptyShapesHaveNoPart();
        promise7LastOfAllParts();
        promise7BoxThatIsNone();
        CHECK.end();
    }

    private static MaskParts fullShapes(int count) {
        MaskParts x = Scenes.shapes(count);
        for (int i = 0; i < 4 * count; i++) {
            x.box(i / 4, 100 * i, 0, 100 * i + 1, 1);
        }
        return x;
    }

    /** Terms: "none is at first". */
    private static void promise5NoneIsAllowedAtFirst() {
        MaskParts x = fullShapes(2);
        CHECK.same("5: stitches at first", 0, x.told(4));
        CHECK.same("5: a part for each shape", 2, x.told(2));
        for (int box = 0; box < 4; box++) {
            CHECK.same("5: at first, box " + box, false, x.stitch(1, box, true));
        }
    }

    /** Promise 5: "whether it was". */
    private static void promise5AnswersWhetherItWas() {
        MaskParts x = fullShapes(2);
        for (int box = 0; box < 4; box++) {
            CHECK.same("5: none told, box " + box, false, x.stitch(0, box, false));
            CHECK.same("5: told not, box " + box, false, x.stitch(0, box, true));
            CHECK.same("5: told, box " + box, true, x.stitch(0, box, true));
            CHECK.same("5: told again, box " + box, true, x.stitch(0, box, false));
            CHECK.same("5: told not again, box " + box, false, x.stitch(0, box, true));
            CHECK.same("5: other shape, box " + box, false, x.stitch(1, box, false));
        }
    }

    /** Promise 5: "it counts when there is a next one". */
    private static void promise5CountsWhenThereIsANextBox() {
        MaskParts x = Scenes.shapes(1);
        for (int box = 0; box < 4; box++) {
            x.box(0, 100 * box, 0, 100 * box + 1, 1);
            CHECK.same("5: stitches with " + (box + 1) + " boxes", box, x.told(4));
            CHECK.same("5: parts with " + (box + 1) + " boxes", box + 1, x.told(2));
            CHECK.same("5: part of the new box", box, x.part(0, box));
            CHECK.same("5: not yet told", false, x.stitch(0, box, true));
            CHECK.same("5: told behind the last box", true, x.stitch(0, box, true));
            CHECK.same("5: that does not count", box, x.told(4));
            CHECK.same("5: and makes no part", box + 1, x.told(2));
            CHECK.same("5: nor a group", 1, x.groups());
        }
    }

    /** Promise 5: behind the fourth box there can be no next one. */
    private static void promise5NeverCountsBehindTheFourthBox() {
        MaskParts x = fullShapes(1);
        x.stitch(0, 3, true);
        CHECK.same("5: behind the fourth", 0, x.told(4));
        CHECK.noState("5: no fifth box", () -> x.box(0, 0, 0, 1, 1));
        CHECK.same("5: still none", 0, x.told(4));
        CHECK.same("5: one part", 1, x.told(2));
        CHECK.same("5: but it is told", true, x.stitch(0, 3, false));
    }

    /** Terms: "Between a box and the next one of its shape". */
    private static void promise5DoesNotReachTheNextShape() {
        MaskParts x = fullShapes(2);
        x.distance(1);
        MaskParts far = Scenes.dots(1, 0, 0, 500, 500);
        far.stitch(0, 0, true);
        CHECK.same("5: no stitch to another shape", 0, far.told(4));
        CHECK.same("5: no group over it", 2, far.groups());
        x.stitch(0, 3, true);
        CHECK.same("5: nor from a full one", 0, x.told(4));
        CHECK.same("5: two parts", 2, x.told(2));
        CHECK.same("5: the next shape's first box", 1, x.part(1, 0));
        CHECK.same("5: its own state", false, x.stitch(1, 0, false));
        far.pre(0, 0, 0);
        far.pre(1, 0, 1);
        CHECK.answers("5: both can be told", 0, () -> far.run(2, 10));
        CHECK.same("5: no stitch is used between shapes", 0, far.used());
        CHECK.same("5: in one round", 3, far.steps());
    }

    /** Promise 5: "allowed .. or not". */
    private static void promise5NoLongerAllowed() {
        MaskParts x = fullShapes(1);
        for (int box = 0; box < 3; box++) {
            x.stitch(0, box, true);
        }
        CHECK.same("5: four parts", 4, x.told(2));
        x.stitch(0, 1, false);
        CHECK.same("5: two stitches", 2, x.told(4));
        CHECK.same("5: three parts", 3, x.told(2));
        CHECK.same("5: box 2 is with box 1", x.part(0, 1), x.part(0, 2));
        x.stitch(0, 0, false);
        x.stitch(0, 2, false);
        CHECK.same("5: no stitch", 0, x.told(4));
        CHECK.same("5: one part", 1, x.told(2));
    }

    /** "there is no such shape, box". */
    private static void promise5BoxThatIsNone() {
        MaskParts x = fullShapes(2);
        x.shape();
        int[][] wrong = {
            {-1, 0}, {3, 0}, {1, -1}, {0, 4}, {2, 0}, {2, -1}, {MOST, 0}, {LEAST, 0}, {0, MOST}, {0, LEAST},
            {1 << 30, 0}, {-1, 4}, {0, 5}, {3, -4},
        };
        for (int[] w : wrong) {
            CHECK.noIndex("5: stitch " + w[0] + " " + w[1], () -> x.stitch(w[0], w[1], true) ? 1 : 0);
            CHECK.noIndex("5: not " + w[0] + " " + w[1], () -> x.stitch(w[0], w[1], false) ? 1 : 0);
        }
        CHECK.same("5: no stitch", 0, x.told(4));
        for (int box = 0; box < 4; box++) {
            CHECK.same("5: not told to shape 0", false, x.stitch(0, box, false));
            CHECK.same("5: not told to shape 1", false, x.stitch(1, box, false));
        }
    }

    /** Terms: "the rows of boxes between stitches that are allowed, and the ends of shapes". */
    private static void promise7EachWayToPartAShape() {
        for (int ways = 0; ways < 16; ways++) {
            MaskParts x = fullShapes(2);
            for (int box = 0; box < 4; box++) {
                x.stitch(0, box, (ways >> box & 1) != 0);
            }
            int due = 0;
            for (int box = 0; box < 4; box++) {
                due += box > 0 ? ways >> (box - 1) & 1 : 0;
                CHECK.same("7: way " + ways + ", box " + box, due, x.part(0, box));
            }
            CHECK.same("7: way " + ways + ", next shape", due + 1, x.part(1, 0));
            CHECK.same("7: way " + ways + ", parts", due + 2, x.told(2));
            CHECK.same("7: way " + ways + ", stitches", due, x.told(4));
        }
    }

    /** Terms: "numbered from 0 on, by shapes, then by boxes", whatever was told first. */
    private static void promise7ByShapesThenByBoxes() {
        MaskParts x = Scenes.shapes(3);
        x.box(2, 0, 0, 1, 1);
        CHECK.same("7: alone", 0, x.part(2, 0));
        x.box(1, 0, 0, 1, 1);
        x.box(2, 5, 0, 6, 1);
        x.stitch(2, 0, true);
        CHECK.same("7: shape 1 comes before", 1, x.part(2, 0));
        CHECK.same("7: then the second box", 2, x.part(2, 1));
        x.box(0, 0, 0, 1, 1);
        CHECK.same("7: the first", 0, x.part(0, 0));
        CHECK.same("7: the last", 3, x.part(2, 1));
    }

    /** A shape without boxes has no part, first, between others or last. */
    private static void promise7EmptyShapesHaveNoPart() {
        MaskParts x = Scenes.shapes(5);
        x.box(1, 0, 0, 1, 1);
        x.box(3, 0, 0, 1, 1);
        CHECK.same("7: behind an empty first shape", 0, x.part(1, 0));
        CHECK.same("7: behind an empty shape between", 1, x.part(3, 0));
        CHECK.same("7: two parts", 2, x.told(2));
        for (int empty : new int[] {0, 2, 4}) {
            CHECK.noIndex("7: empty shape " + empty, () -> x.part(empty, 0));
        }
    }

    /** 10 shapes of 4 boxes with all stitches: 40 parts. */
    private static void promise7LastOfAllParts() {
        MaskParts x = Scenes.full();
        for (int shape = 0; shape < 10; shape++) {
            for (int box = 0; box < 4; box++) {
                CHECK.same("7: full, " + shape + " " + box, 4 * shape + box, x.part(shape, box));
            }
        }
    }

    /** "there is no such shape, box", also where a box of another shape is beside it. */
    private static void promise7BoxThatIsNone() {
        MaskParts x = fullShapes(2);
        x.shape();
        x.box(2, 0, 0, 1, 1);
        int[][] wrong = {
            {-1, 0}, {3, 0}, {0, -1}, {1, -1}, {0, 4}, {1, 4}, {2, 1}, {2, -4}, {-1, 4}, {3, -4},
            {MOST, 0}, {LEAST, 0}, {0, MOST}, {0, LEAST}, {1 << 30, 0}, {1 << 30, 1},
        };
        for (int[] w : wrong) {
            CHECK.noIndex("7: part " + w[0] + " " + w[1], () -> x.part(w[0], w[1]));
            CHECK.noIndex("10: colour " + w[0] + " " + w[1], () -> x.colour(w[0], w[1]));
            CHECK.noIndex("6: pre " + w[0] + " " + w[1], () -> x.pre(w[0], w[1], 0));
        }
    }
}
