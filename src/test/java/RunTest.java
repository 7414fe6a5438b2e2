/** Promises 9 to 13: to colour, and what it found. */
public final class RunTest {
    private static final Check CHECK = new Check();

    public static void main(String[] args) {
        promise9Run();
        promise9WrongNumbers();
        promise9NothingToColour();
        promise9ToldColours();
        promise9Stitches();
        promise9RoundsAreForStitchesThatCount();
        promise9StitchesAsFewAsCanBe();
        promise10Colour();
        promise11Used();
        promise12Steps();
        promise12StepsOfManyRounds();
        promise13Area();
        CHECK.end();
    }

    private static void promise9Run() {
        MaskParts x = Scenes.triangle();
        CHECK.answers("two colours for a triangle", 1, () -> x.run(2, 20000));
        CHECK.answers("just enough steps to know it", 1, () -> x.run(2, 10));
        CHECK.answers("one step too few", 2, () -> x.run(2, 9));
        CHECK.answers("three colours", 0, () -> x.run(3, 6));
        CHECK.answers("three colours, a step too few", 2, () -> x.run(3, 5));
        CHECK.answers("four colours", 0, () -> x.run(4, 6));
        CHECK.answers("no steps", 2, () -> x.run(4, 0));
    }

    private static void promise9WrongNumbers() {
        MaskParts x = Scenes.triangle();
        for (int wrong : new int[] {1, 0, -1, 5, Integer.MAX_VALUE, Integer.MIN_VALUE}) {
            CHECK.noArgument("colours " + wrong, () -> x.run(wrong, 5));
        }
        for (int wrong : new int[] {-1, 20001, Integer.MAX_VALUE, Integer.MIN_VALUE}) {
            CHECK.noArgument("steps " + wrong, () -> x.run(2, wrong));
        }
    }

    private static void promise9NothingToColour() {
        MaskParts x = new MaskParts();
        CHECK.answers("no shapes", 0, () -> x.run(2, 0));
        CHECK.same("no shapes: used", 0, x.used());
        x.shape();
        CHECK.answers("no boxes", 0, () -> x.run(4, 0));
        CHECK.same("no boxes: steps", 0, x.steps());
        CHECK.same("no boxes: used", 0, x.used());
        CHECK.same("no boxes: area", 0, x.area(0));
    }

    private static void promise9ToldColours() {
        MaskParts x = Scenes.dots(2, 0, 0, 2, 0);
        x.pre(1, 0, 0);
        CHECK.answers("a later part is told", 0, () -> x.run(2, 100));
        CHECK.same("the first one gives way", 1, x.colour(0, 0));
        CHECK.same("steps with one way back", 5, stepsAfter(x, 2));
        x.pre(0, 0, 0);
        CHECK.answers("both are told the same", 1, () -> x.run(4, 100));
        x.pre(0, 0, 3);
        CHECK.answers("told one that is not there", 1, () -> x.run(3, 100));
        CHECK.same("all three are tried once", 3, x.steps());
        CHECK.answers("it is there with four", 0, () -> x.run(4, 100));
        CHECK.same("the last colour", 3, x.colour(0, 0));
        x.box(0, 0, 0, 1, 1);
        x.pre(0, 1, 2);
        CHECK.answers("two boxes of a part are told different ones", 1, () -> x.run(4, 100));
        CHECK.same("all four are tried once", 4, x.steps());
    }

    private static int stepsAfter(MaskParts x, int colours) {
        x.run(colours, 20000);
        return x.steps();
    }

    private static void promise9Stitches() {
        MaskParts x = Scenes.stitchNeeded();
        CHECK.answers("a stitch helps", 0, () -> x.run(2, 20000));
        CHECK.same("the stitch is used", 1, x.used());
        int[][] due = {{0, 0, 0}, {0, 1, 1}, {1, 0, 1}, {2, 0, 0}};
        for (int[] d : due) {
            CHECK.same("stitched: colour " + d[0] + " " + d[1], d[2], x.colour(d[0], d[1]));
        }
        x.stitch(0, 0, false);
        CHECK.answers("without it it cannot be", 1, () -> x.run(2, 20000));
        CHECK.answers("but with three colours", 0, () -> x.run(3, 20000));
        CHECK.same("the third one", 2, x.colour(0, 1));
        x.stitch(0, 0, true);
        CHECK.answers("no stitch comes before the least colours", 0, () -> x.run(3, 20000));
        CHECK.same("it is not used", 0, x.used());
        CHECK.same("so both are of the third one", 2, x.colour(0, 0));
    }

    private static void promise9RoundsAreForStitchesThatCount() {
        MaskParts x = Scenes.dots(2, 0, 0, 2, 0);
        x.stitch(0, 0, true);
        x.stitch(1, 0, true);
        x.pre(0, 0, 3);
        CHECK.answers("it cannot be", 1, () -> x.run(2, 100));
        CHECK.same("stitches without a next box bring no round", 2, x.steps());
        x.box(0, 50, 0, 51, 1);
        CHECK.answers("it still cannot be", 1, () -> x.run(2, 100));
        CHECK.same("a round for each number of stitches", 4, x.steps());
    }

    private static void promise9StitchesAsFewAsCanBe() {
        MaskParts x = Scenes.shapes(1);
        for (int i = 0; i < 4; i++) {
            x.box(0, i, 0, i + 1, 1);
            x.stitch(0, i, true);
        }
        CHECK.answers("nothing asks for a stitch", 0, () -> x.run(4, 100));
        CHECK.same("none is used", 0, x.used());
        x.pre(0, 1, 1);
        CHECK.answers("one is told", 0, () -> x.run(4, 100));
        CHECK.same("the others follow", 0, x.used());
        CHECK.same("the first one follows", 1, x.colour(0, 0));
        x.pre(0, 2, 0);
        x.pre(0, 3, 1);
        CHECK.answers("three are told", 0, () -> x.run(2, 1000));
        CHECK.same("two are used", 2, x.used());
        x.pre(0, 0, 3);
        CHECK.answers("all are told", 0, () -> x.run(4, 1000));
        CHECK.same("all are used", 3, x.used());
    }

    private static void promise10Colour() {
        MaskParts x = Scenes.triangle();
        x.box(1, 3, 0, 4, 1);
        CHECK.same("before a run", -1, x.colour(0, 0));
        x.run(3, 100);
        CHECK.same("part 0", 0, x.colour(0, 0));
        CHECK.same("part 1", 1, x.colour(1, 0));
        CHECK.same("part 1's other box", 1, x.colour(1, 1));
        CHECK.same("part 2", 2, x.colour(2, 0));
        CHECK.noIndex("colour of box 2 of 2", () -> x.colour(1, 2));
        CHECK.noIndex("colour of box -1", () -> x.colour(1, -1));
        CHECK.noIndex("colour of shape 3 of 3", () -> x.colour(3, 0));
        CHECK.noIndex("colour of shape -1", () -> x.colour(-1, 0));
        x.run(2, 100);
        CHECK.same("the latest run could not", -1, x.colour(0, 0));
        x.run(3, 100);
        x.run(3, 5);
        CHECK.same("the latest run is spent", -1, x.colour(0, 0));
        CHECK.noIndex("no box comes before no run", () -> x.colour(1, 2));
    }

    private static void promise11Used() {
        MaskParts x = Scenes.stitchNeeded();
        CHECK.same("before a run", -1, x.used());
        x.run(2, 20000);
        CHECK.same("one", 1, x.used());
        x.run(2, 3);
        CHECK.same("spent", -1, x.used());
        x.run(3, 20000);
        CHECK.same("none", 0, x.used());
        x.pre(0, 0, 1);
        CHECK.same("gone", -1, x.used());
        x.run(4, 20000);
        CHECK.same("it cannot be", -1, x.used());
    }

    private static void promise12Steps() {
        MaskParts x = Scenes.triangle();
        x.run(2, 20000);
        CHECK.same("steps to know that it cannot be", 10, x.steps());
        x.run(2, 9);
        CHECK.same("steps when spent", 9, x.steps());
        x.run(3, 20000);
        CHECK.same("steps to colour", 6, x.steps());
        x.run(3, 0);
        CHECK.same("no steps", 0, x.steps());
        x.run(3, 6);
        CHECK.same("just as many", 6, x.steps());
        CHECK.noArgument("a refused run", () -> x.run(3, -1));
        CHECK.same("leaves the steps", 6, x.steps());
        x.told(2);
        x.ring();
        x.groups();
        CHECK.same("asking leaves the steps", 6, x.steps());
        x.stitch(0, 0, false);
        CHECK.same("gone", 0, x.steps());
    }

    private static void promise12StepsOfManyRounds() {
        MaskParts x = Scenes.full();
        CHECK.answers("a full object", 2, () -> x.run(4, 20000));
        CHECK.same("all are spent", 20000, x.steps());
        MaskParts y = Scenes.shapes(1);
        y.box(0, 0, 0, 1, 1);
        y.box(0, 5, 0, 6, 1);
        y.stitch(0, 0, true);
        y.pre(0, 0, 0);
        y.pre(0, 1, 1);
        // Round 0: part 0 as 0, part 1 as 0 and 1, part 0 as 1; round 1: 0, then 0 and 1.
        CHECK.answers("two rounds", 0, () -> y.run(2, 7));
        CHECK.same("steps of both", 7, y.steps());
        CHECK.answers("spent between rounds", 2, () -> y.run(2, 4));
        CHECK.same("steps of the first", 4, y.steps());
    }

    private static void promise13Area() {
        MaskParts x = Scenes.stitchNeeded();
        CHECK.same("before a run", 0, x.area(0));
        x.run(2, 20000);
        CHECK.same("colour 0", 1 + 4, x.area(0));
        CHECK.same("colour 1", 2 + 3, x.area(1));
        CHECK.same("colour 2", 0, x.area(2));
        CHECK.same("colour 3", 0, x.area(3));
        CHECK.noArgument("colour 4", () -> x.area(4));
        CHECK.noArgument("colour -1", () -> x.area(-1));
        x.run(2, 3);
        CHECK.same("spent", 0, x.area(0));
        MaskParts z = Scenes.shapes(1);
        for (int i = 0; i < 4; i++) {
            z.box(0, -10000, -10000, 10000, 10000);
        }
        z.pre(0, 2, 3);
        z.run(4, 20000);
        CHECK.same("boxes that overlap count each", 1600000000L, z.area(3));
        CHECK.same("not of colour 0", 0, z.area(0));
        MaskParts w = Scenes.shapes(2);
        w.distance(1);
        for (int i = 0; i < 4; i++) {
            w.box(0, -10000, -10000, 10000, -1);
            w.box(1, -10000, 0, 10000, 10000);
        }
        w.run(2, 20000);
        CHECK.same("two shapes that are not near", 4L * 20000 * 19999, w.area(0));
        CHECK.same("the other colour", 0, w.area(1));
    }
}
