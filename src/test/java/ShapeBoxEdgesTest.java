/** Edges of promises 1, 3 and 4: how many shapes and boxes there may be, and a box's numbers. */
public final class ShapeBoxEdgesTest {
    private static final Check CHECK = new Check();
    private static final int MOST = Integer.MAX_VALUE;
    private static final int LEAST = Integer.MIN_VALUE;

    public static void main(String[] args) {
        promise1NewObjectIsEmpty();
        promise1NewObjectHasNothingToName();
        promise1ObjectsShareNothing();
        promise3ShapesAreNumberedFrom0();
        promise3TenShapesAtMost();
        promise3ShapeHasNoBoxes();
        promise4FourBoxesAtMostInEachShape();
        promise4BoxGoesBehindTheOthers();
        promise4ShapeThatIsNone();
        promise4NumbersFromEndToEnd();
        promise4NumberTooSmallOrTooLarge();
        promise4BothEndsAreGreater();
        promise4NumbersThatWrapAround();
        promise4IndexComesBeforeArgument();
        promise4ArgumentComesBeforeState();
        CHECK.end();
    }

    /** Promise 1: "No shapes." */
    private static void promise1NewObjectIsEmpty() {
        MaskParts x = new MaskParts();
        for (int what = 0; what <= 4; what++) {
            CHECK.same("1: told " + what, 0, x.told(what));
        }
        CHECK.same("1: the distance is 10 at first", 10, x.told(5));
        CHECK.same("1: groups", 0, x.groups());
        CHECK.same("1: ring", 0, x.ring());
        CHECK.same("1: steps", 0, x.steps());
        CHECK.same("1: used", -1, x.used());
        for (int colour = 0; colour <= 3; colour++) {
            CHECK.same("1: area " + colour, 0, x.area(colour));
        }
    }

    /** Promise 1: where nothing is, every number is one too large. */
    private static void promise1NewObjectHasNothingToName() {
        MaskParts x = new MaskParts();
        for (int n : new int[] {-1, 0, 1}) {
            CHECK.noIndex("1: box in " + n, () -> x.box(n, 0, 0, 1, 1));
            CHECK.noIndex("1: stitch in " + n, () -> x.stitch(n, 0, true) ? 1 : 0);
            CHECK.noIndex("1: pre in " + n, () -> x.pre(n, 0, 0));
            CHECK.noIndex("1: part in " + n, () -> x.part(n, 0));
            CHECK.noIndex("1: colour in " + n, () -> x.colour(n, 0));
            CHECK.noIndex("1: pair " + n, () -> x.pair(n, 0));
            CHECK.noIndex("1: ringAt " + n, () -> x.ringAt(n));
        }
    }

    /** Promise 1: a new object is empty, whatever was told to others. */
    private static void promise1ObjectsShareNothing() {
        MaskParts first = Scenes.mixed(9);
        first.run(3, 20000);
        String before = Snapshot.asked(first);
        MaskParts second = new MaskParts();
        CHECK.same("1: a second object", Snapshot.asked(new MaskParts()), Snapshot.asked(second));
        CHECK.same("1: the second one's shape", 0, second.shape());
        second.box(0, 0, 0, 5, 5);
        second.distance(500);
        second.run(4, 7);
        CHECK.same("1: the first one stays", before, Snapshot.asked(first));
    }

    /** Promise 3: "its number"; Terms: "numbered from 0 on". */
    private static void promise3ShapesAreNumberedFrom0() {
        MaskParts x = new MaskParts();
        for (int i = 0; i < 10; i++) {
            CHECK.answers("3: shape " + i, i, x::shape);
            CHECK.same("3: shapes", i + 1, x.told(0));
            int next = i + 1;
            CHECK.noIndex("3: the next one is not there yet", () -> x.box(next, 0, 0, 1, 1));
        }
    }

    /** Terms: "SHAPES, at most 10"; "there would be more than there may be". */
    private static void promise3TenShapesAtMost() {
        MaskParts x = Scenes.shapes(9);
        CHECK.answers("3: the tenth", 9, x::shape);
        for (int i = 0; i < 3; i++) {
            CHECK.noState("3: the eleventh", x::shape);
        }
        CHECK.same("3: still ten", 10, x.told(0));
        CHECK.noIndex("3: no shape 10", () -> x.box(10, 0, 0, 1, 1));
        CHECK.answers("3: the tenth takes boxes", 1, () -> x.box(9, 0, 0, 1, 1));
        CHECK.noState("3: the eleventh, with a box there", x::shape);
        CHECK.same("3: the box stays", 1, x.told(1));
    }

    /** Promise 3: "A shape without boxes". */
    private static void promise3ShapeHasNoBoxes() {
        MaskParts x = new MaskParts();
        x.shape();
        CHECK.same("3: no boxes", 0, x.told(1));
        CHECK.same("3: no parts", 0, x.told(2));
        CHECK.same("3: no groups", 0, x.groups());
        CHECK.noIndex("3: no box to ask for", () -> x.part(0, 0));
        x.box(0, 0, 0, 1, 1);
        x.shape();
        CHECK.same("3: the new one brings no box", 1, x.told(1));
        CHECK.noIndex("3: it has none of the other's", () -> x.part(1, 0));
    }

    /** Terms: "BOXES, at most 4 each"; promise 4: "how many it has". */
    private static void promise4FourBoxesAtMostInEachShape() {
        MaskParts x = Scenes.shapes(10);
        for (int shape = 0; shape < 10; shape++) {
            int s = shape;
            for (int n = 1; n <= 4; n++) {
                CHECK.answers("4: box in " + s, n, () -> x.box(s, 0, 0, 1, 1));
            }
            CHECK.noState("4: fifth box in " + s, () -> x.box(s, 0, 0, 1, 1));
            CHECK.noState("4: fifth box again in " + s, () -> x.box(s, 5, 5, 6, 6));
            CHECK.same("4: boxes", 4 * (s + 1), x.told(1));
            CHECK.noIndex("4: no box 4 in " + s, () -> x.part(s, 4));
        }
    }

    /** Promise 4: "behind a shape's others". */
    private static void promise4BoxGoesBehindTheOthers() {
        MaskParts x = Scenes.shapes(2);
        for (int i = 0; i < 4; i++) {
            x.box(0, 100 * i, 0, 100 * i + 1, 1);
            x.stitch(0, i, true);
        }
        x.box(1, 302, 0, 303, 1);
        CHECK.same("4: the fourth box is part 3", 3, x.part(0, 3));
        CHECK.same("4: one is near", 1, x.told(3));
        CHECK.same("4: it is the fourth box", 3, x.pair(0, 0));
    }

    /** "there is no such shape". */
    private static void promise4ShapeThatIsNone() {
        MaskParts x = Scenes.shapes(2);
        for (int wrong : new int[] {-1, 2, 10, 1 << 30, MOST, LEAST}) {
            CHECK.noIndex("4: box in shape " + wrong, () -> x.box(wrong, 0, 0, 1, 1));
        }
        CHECK.same("4: no box", 0, x.told(1));
    }

    /** Terms: "all -10000 .. 10000". */
    private static void promise4NumbersFromEndToEnd() {
        int[][] right = {
            {-10000, -10000, 10000, 10000}, {-10000, 0, -9999, 1}, {0, -10000, 1, -9999},
            {9999, 0, 10000, 1}, {0, 9999, 1, 10000}, {9999, 9999, 10000, 10000},
            {-10000, -10000, -9999, -9999}, {-10000, 9999, -9999, 10000},
        };
        for (int[] r : right) {
            MaskParts x = Scenes.shapes(1);
            CHECK.answers("4: box " + text(r), 1, () -> x.box(0, r[0], r[1], r[2], r[3]));
            x.run(2, 1);
            CHECK.same("4: size of " + text(r), (long) (r[2] - r[0]) * (r[3] - r[1]), x.area(0));
        }
    }

    /** Terms: "all -10000 .. 10000": each of the four numbers alone is one too small or too large. */
    private static void promise4NumberTooSmallOrTooLarge() {
        int[][] wrong = {
            {-10001, 0, 1, 1}, {0, -10001, 1, 1}, {0, 0, 10001, 1}, {0, 0, 1, 10001},
            {-10002, 0, -10001, 1}, {0, -10002, 1, -10001}, {10000, 0, 10001, 1}, {0, 10000, 1, 10001},
            {-20000, 0, 1, 1}, {0, 0, 1, 20000},
        };
        refuseAll(wrong);
    }

    /** Terms: "to x2, y2, both greater". */
    private static void promise4BothEndsAreGreater() {
        int[][] wrong = {
            {0, 0, 0, 1}, {0, 0, 1, 0}, {0, 0, 0, 0}, {1, 0, 0, 1}, {0, 1, 1, 0}, {5, 5, 4, 4},
            {10000, 0, 10000, 1}, {0, 10000, 1, 10000}, {-10000, 0, -10000, 1}, {0, -10000, 1, -10000},
            {10000, 10000, -10000, -10000}, {10000, -10000, -10000, 10000},
        };
        refuseAll(wrong);
    }

    /** The least and the greatest int are none, also where a difference of them wraps around. */
    private static void promise4NumbersThatWrapAround() {
        int[][] wrong = {
            {LEAST, 0, 1, 1}, {0, LEAST, 1, 1}, {0, 0, MOST, 1}, {0, 0, 1, MOST},
            {MOST, 0, LEAST, 1}, {0, MOST, 1, LEAST}, {LEAST, 0, MOST, 1}, {0, LEAST, 1, MOST},
            {MOST, MOST, LEAST, LEAST}, {LEAST, LEAST, MOST, MOST}, {LEAST, LEAST, LEAST + 1, LEAST + 1},
        };
        refuseAll(wrong);
    }

    private static void refuseAll(int[][] wrong) {
        MaskParts x = Scenes.shapes(1);
        for (int[] w : wrong) {
            CHECK.noArgument("4: box " + text(w), () -> x.box(0, w[0], w[1], w[2], w[3]));
        }
        CHECK.same("4: no box was told", 0, x.told(1));
        CHECK.answers("4: the first box", 1, () -> x.box(0, 0, 0, 1, 1));
    }

    /** "Of several the first one that a call names". */
    private static void promise4IndexComesBeforeArgument() {
        MaskParts x = Scenes.shapes(1);
        CHECK.noIndex("4: no shape, wrong numbers", () -> x.box(1, 0, 0, 0, 0));
        CHECK.noIndex("4: no shape, numbers too large", () -> x.box(-1, 0, 0, 10001, 10001));
        MaskParts full = Scenes.full();
        CHECK.noIndex("4: no shape, all are full", () -> full.box(10, 0, 0, 1, 1));
        CHECK.noIndex("4: no shape, all are full, wrong numbers", () -> full.box(-1, 1, 1, 0, 0));
    }

    /** "Of several the first one that a call names". */
    private static void promise4ArgumentComesBeforeState() {
        MaskParts full = Scenes.full();
        CHECK.noArgument("4: not greater, full", () -> full.box(9, 0, 0, 0, 1));
        CHECK.noArgument("4: too large, full", () -> full.box(9, 0, 0, 1, 10001));
        CHECK.noState("4: full", () -> full.box(9, 0, 0, 1, 1));
    }

    private static String text(int[] numbers) {
        return java.util.Arrays.toString(numbers);
    }
}
