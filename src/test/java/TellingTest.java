/** Promises 1 to 6: a new object, and what it is told. */
public final class TellingTest {
    private static final Check CHECK = new Check();

    public static void main(String[] args) {
        promise1NewObject();
        promise2Distance();
        promise3Shape();
        promise4Box();
        promise4WrongBoxes();
        promise4WhichExceptionComesFirst();
        promise5Stitch();
        promise6Pre();
        promises2To6WhatIsToldTakesColoursAway();
        promises2To9WhatIsRefusedLeavesColours();
        CHECK.end();
    }

    private static void promise1NewObject() {
        MaskParts x = new MaskParts();
        CHECK.same("NONE", -1, MaskParts.NONE);
        int[] due = {0, 0, 0, 0, 0, 10};
        for (int what = 0; what < due.length; what++) {
            CHECK.same("new: told " + what, due[what], x.told(what));
        }
        CHECK.same("new: used", -1, x.used());
        CHECK.same("new: steps", 0, x.steps());
        CHECK.same("new: area", 0, x.area(0));
        CHECK.same("new: ring", 0, x.ring());
        CHECK.same("new: groups", 0, x.groups());
        CHECK.noIndex("new: box", () -> x.box(0, 0, 0, 1, 1));
        CHECK.noIndex("new: pair", () -> x.pair(0, 0));
        CHECK.noIndex("new: ringAt", () -> x.ringAt(0));
        CHECK.noIndex("new: part", () -> x.part(0, 0));
        CHECK.noIndex("new: colour", () -> x.colour(0, 0));
    }

    private static void promise2Distance() {
        MaskParts x = new MaskParts();
        CHECK.answers("distance at first", 10, () -> x.distance(7));
        CHECK.answers("distance told", 7, () -> x.distance(7));
        CHECK.answers("least distance", 7, () -> x.distance(1));
        CHECK.answers("greatest distance", 1, () -> x.distance(1000));
        for (int wrong : new int[] {0, -1, 1001, Integer.MAX_VALUE, Integer.MIN_VALUE}) {
            CHECK.noArgument("distance " + wrong, () -> x.distance(wrong));
        }
        CHECK.same("distance after refusals", 1000, x.told(5));
    }

    private static void promise3Shape() {
        MaskParts x = new MaskParts();
        for (int i = 0; i < 10; i++) {
            CHECK.same("shape", i, x.shape());
            CHECK.same("shapes", i + 1, x.told(0));
        }
        CHECK.noState("eleventh shape", x::shape);
        CHECK.noState("eleventh shape again", x::shape);
        CHECK.same("shapes at most", 10, x.told(0));
        CHECK.same("a shape has no boxes", 0, x.told(1));
        CHECK.noIndex("no box in a new shape", () -> x.part(9, 0));
    }

    private static void promise4Box() {
        MaskParts x = Scenes.shapes(2);
        CHECK.answers("first box", 1, () -> x.box(1, -10000, -10000, 10000, 10000));
        CHECK.answers("second box", 2, () -> x.box(1, 9999, 9999, 10000, 10000));
        CHECK.answers("third box", 3, () -> x.box(1, -10000, -10000, -9999, -9999));
        CHECK.answers("fourth box", 4, () -> x.box(1, 0, 0, 1, 2));
        CHECK.noState("fifth box", () -> x.box(1, 0, 0, 1, 1));
        CHECK.same("boxes", 4, x.told(1));
        CHECK.answers("other shape's first box", 1, () -> x.box(0, 0, 0, 1, 1));
        CHECK.same("boxes of both", 5, x.told(1));
    }

    private static void promise4WrongBoxes() {
        MaskParts x = Scenes.shapes(1);
        int most = Integer.MAX_VALUE;
        int least = Integer.MIN_VALUE;
        int[][] wrong = {
            {0, 0, 0, 1}, {0, 0, 1, 0}, {1, 0, 0, 1}, {0, 1, 1, 0},
            {-10001, 0, 0, 1}, {0, -10001, 1, 0}, {0, 0, 10001, 1}, {0, 0, 1, 10001},
            {10000, 0, 10001, 1}, {0, 10000, 1, 10001}, {-10002, 0, -10001, 1},
            {least, 0, most, 1}, {0, least, 1, most}, {most, 0, least, 1}, {0, most, 1, least},
        };
        for (int[] w : wrong) {
            String what = "box " + w[0] + " " + w[1] + " " + w[2] + " " + w[3];
            CHECK.noArgument(what, () -> x.box(0, w[0], w[1], w[2], w[3]));
        }
        CHECK.noIndex("box of shape -1", () -> x.box(-1, 0, 0, 1, 1));
        CHECK.noIndex("box of shape 1 of 1", () -> x.box(1, 0, 0, 1, 1));
        CHECK.same("no box was told", 0, x.told(1));
    }

    private static void promise4WhichExceptionComesFirst() {
        MaskParts x = Scenes.shapes(1);
        for (int i = 0; i < 4; i++) {
            x.box(0, 0, 0, 1, 1);
        }
        CHECK.noIndex("no shape and a wrong box", () -> x.box(1, 5, 0, 1, 1));
        CHECK.noArgument("a wrong box and one too many", () -> x.box(0, 5, 0, 1, 1));
        CHECK.noState("one too many", () -> x.box(0, 0, 0, 1, 1));
    }

    private static void promise5Stitch() {
        MaskParts x = Scenes.shapes(2);
        x.box(0, 0, 0, 1, 1);
        CHECK.same("none is at first", 0, x.stitch(0, 0, true) ? 1 : 0);
        CHECK.same("it was allowed, without a next box", 1, x.stitch(0, 0, true) ? 1 : 0);
        CHECK.same("it does not count", 0, x.told(4));
        CHECK.same("one part", 1, x.told(2));
        x.box(0, 1, 0, 2, 1);
        CHECK.same("it counts with a next box", 1, x.told(4));
        CHECK.same("two parts", 2, x.told(2));
        CHECK.same("it was allowed", 1, x.stitch(0, 0, false) ? 1 : 0);
        CHECK.same("it was not allowed", 0, x.stitch(0, 0, false) ? 1 : 0);
        CHECK.same("no stitch", 0, x.told(4));
        CHECK.noIndex("stitch of shape -1", () -> x.stitch(-1, 0, true) ? 1 : 0);
        CHECK.noIndex("stitch of shape 2 of 2", () -> x.stitch(2, 0, true) ? 1 : 0);
        CHECK.noIndex("stitch of box -1", () -> x.stitch(0, -1, true) ? 1 : 0);
        CHECK.noIndex("stitch of box 2 of 2", () -> x.stitch(0, 2, true) ? 1 : 0);
        CHECK.noIndex("stitch in an empty shape", () -> x.stitch(1, 0, true) ? 1 : 0);
        CHECK.same("still no stitch", 0, x.told(4));
    }

    private static void promise6Pre() {
        MaskParts x = Scenes.shapes(2);
        x.box(0, 0, 0, 1, 1);
        x.box(0, 5, 0, 6, 1);
        CHECK.answers("told nothing at first", -1, () -> x.pre(0, 1, 3));
        CHECK.answers("told 3", 3, () -> x.pre(0, 1, 0));
        CHECK.answers("told 0", 0, () -> x.pre(0, 1, MaskParts.NONE));
        CHECK.answers("told NONE", -1, () -> x.pre(0, 1, 2));
        CHECK.answers("the other box", -1, () -> x.pre(0, 0, 2));
        CHECK.noArgument("colour 4", () -> x.pre(0, 1, 4));
        CHECK.noArgument("colour -2", () -> x.pre(0, 1, -2));
        CHECK.noIndex("pre of shape -1", () -> x.pre(-1, 0, 0));
        CHECK.noIndex("pre of shape 2 of 2", () -> x.pre(2, 0, 0));
        CHECK.noIndex("pre of box 2 of 2", () -> x.pre(0, 2, 0));
        CHECK.noIndex("pre of box -1", () -> x.pre(0, -1, 0));
        CHECK.noIndex("pre in an empty shape", () -> x.pre(1, 0, 0));
        CHECK.noIndex("no box and no colour", () -> x.pre(0, 2, 4));
        CHECK.answers("refusals changed nothing", 2, () -> x.pre(0, 1, -1));
        CHECK.answers("run", 0, () -> x.run(3, 10));
        CHECK.same("colour told to its part's other box", 2, x.colour(0, 1));
    }

    private static void promises2To6WhatIsToldTakesColoursAway() {
        Check.Call[] tellings = new Check.Call[5];
        for (int i = 0; i < tellings.length; i++) {
            MaskParts x = Scenes.triangle();
            tellings[0] = () -> x.distance(2);
            tellings[1] = x::shape;
            tellings[2] = () -> x.box(0, 0, 0, 1, 1);
            tellings[3] = () -> x.stitch(0, 0, false) ? 1 : 0;
            tellings[4] = () -> x.pre(0, 0, MaskParts.NONE);
            CHECK.answers("run before telling", 0, () -> x.run(3, 100));
            CHECK.same("steps before telling", 6, x.steps());
            tellings[i].answer();
            CHECK.same("colour after telling " + i, -1, x.colour(1, 0));
            CHECK.same("used after telling " + i, -1, x.used());
            CHECK.same("steps after telling " + i, 0, x.steps());
            CHECK.same("area after telling " + i, 0, x.area(0));
        }
    }

    private static void promises2To9WhatIsRefusedLeavesColours() {
        MaskParts y = Scenes.shapes(10);
        for (int i = 0; i < 4; i++) {
            y.box(0, 0, 0, 1, 1);
        }
        y.run(2, 1);
        CHECK.noArgument("distance", () -> y.distance(0));
        CHECK.noState("shape", y::shape);
        CHECK.noState("box", () -> y.box(0, 0, 0, 1, 1));
        CHECK.noArgument("box", () -> y.box(0, 0, 0, 0, 0));
        CHECK.noIndex("stitch", () -> y.stitch(0, 4, true) ? 1 : 0);
        CHECK.noArgument("pre", () -> y.pre(0, 0, 4));
        CHECK.noArgument("run with too few colours", () -> y.run(1, 5));
        CHECK.noArgument("run with too many steps", () -> y.run(2, 20001));
        CHECK.same("colour stays", 0, y.colour(0, 3));
        CHECK.same("used stays", 0, y.used());
        CHECK.same("steps stay", 1, y.steps());
        CHECK.same("area stays", 4, y.area(0));
    }
}
