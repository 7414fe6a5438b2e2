/** Edges of promises 9, 11 and 12: which steps are told, when a search is SPENT, how many rounds it has. */
public final class StepEdgesTest {
    private static final Check CHECK = new Check();

    public static void main(String[] args) {
        promise9From0To20000Steps();
        promise9StepsTooFewOrTooMany();
        promise9SpentWhenOneMoreWouldBeAbove();
        promise9SpentInALaterRound();
        promise9SpentBetweenRounds();
        promise9RoundsUpToTheStitchesThatCount();
        promise9MostRounds();
        promise9FewestStitchesComeFirst();
        promise11NoneUnlessItIs();
        promise11FromNoneToAll();
        promise12StepsOfEachOutcome();
        promise12LatestRunAlone();
        promise12MostSteps();
        CHECK.end();
    }

    /** A run with each number of steps from none to more than it needs. */
    private static void checkSteps(String what, MaskParts x, int colours, int outcome, int needed) {
        for (int steps = 0; steps <= needed + 2; steps++) {
            int told = steps;
            boolean isSpent = steps < needed;
            String text = what + " with " + steps + " steps";
            CHECK.answers("9: " + text, isSpent ? 2 : outcome, () -> x.run(colours, told));
            CHECK.same("12: " + text, isSpent ? steps : needed, x.steps());
            CHECK.same("11: " + text, isSpent || outcome != 0, x.used() == MaskParts.NONE);
        }
    }

    /** One shape, a box for each colour, stitches between them all. */
    private static MaskParts toldRow(int... colours) {
        MaskParts x = Scenes.shapes(1);
        for (int i = 0; i < colours.length; i++) {
            x.box(0, 100 * i, 0, 100 * i + 1, 1);
            x.stitch(0, i, true);
            x.pre(0, i, colours[i]);
        }
        return x;
    }

    /** Promise 9: "0 .. 20000 steps". */
    private static void promise9From0To20000Steps() {
        MaskParts x = Scenes.dots(1, 0, 0);
        CHECK.answers("9: no steps", 2, () -> x.run(2, 0));
        CHECK.answers("9: one step", 0, () -> x.run(2, 1));
        CHECK.answers("9: 19999 steps", 0, () -> x.run(2, 19999));
        CHECK.answers("9: 20000 steps", 0, () -> x.run(2, 20000));
    }

    /** "another number is none that is told". */
    private static void promise9StepsTooFewOrTooMany() {
        MaskParts x = Scenes.dots(1, 0, 0);
        MaskParts none = new MaskParts();
        for (int wrong : new int[] {-1, -2, 20001, 20002, Integer.MAX_VALUE, Integer.MIN_VALUE}) {
            for (int colours = 2; colours <= 4; colours++) {
                int c = colours;
                CHECK.noArgument("9: steps " + wrong, () -> x.run(c, wrong));
                CHECK.noArgument("9: nothing there, steps " + wrong, () -> none.run(c, wrong));
            }
        }
    }

    /** Terms: "when one more would be above the steps told, it is SPENT". */
    private static void promise9SpentWhenOneMoreWouldBeAbove() {
        checkSteps("one part", Scenes.dots(1, 0, 0), 2, 0, 1);
        checkSteps("two near parts", Scenes.dots(1, 0, 0, 0, 0), 2, 0, 3);
        checkSteps("two far parts", Scenes.dots(1, 0, 0, 5, 5), 2, 0, 2);
        checkSteps("three near parts", Scenes.triangle(), 3, 0, 6);
        // Parts as 0 1, 0 and 1 for the third; then 1 0, 0 and 1; 1 1: 1 + 2 + 2 + 1 + 1 + 2 + 1.
        checkSteps("three with two colours", Scenes.triangle(), 2, 1, 10);
        checkSteps("told the last colour", toldRow(3), 4, 0, 4);
        checkSteps("told one that is not there", toldRow(3), 3, 1, 3);
    }

    /** Terms: steps are those of all rounds together. */
    private static void promise9SpentInALaterRound() {
        // Round 0: 0; 0, 1; 1. Round 1: 0; 0, 1.
        checkSteps("a stitch is needed", toldRow(0, 1), 2, 0, 4 + 3);
        // Round 0: 0; 0, 1; 1. Round 1: 0; 0, 1; 0, 1; 1. Round 2: 0; 0, 1; 0.
        checkSteps("two stitches are needed", toldRow(0, 1, 0), 2, 0, 4 + 6 + 4);
        // Round 0: 0, 1. Round 1: 0, 1.
        checkSteps("a stitch is of no use", toldRow(2, 0), 2, 1, 4);
        checkSteps("something of everything", Scenes.mixed(9), 3, 0, 14);
        checkSteps("something of everything, two colours", Scenes.mixed(9), 2, 1, 12);
    }

    /** The first step of a round that is one too many: SPENT, though the round before could be ended. */
    private static void promise9SpentBetweenRounds() {
        MaskParts x = toldRow(0, 1, 0);
        CHECK.answers("9: behind round 0", 2, () -> x.run(2, 4));
        CHECK.same("12: behind round 0", 4, x.steps());
        CHECK.answers("9: behind round 1", 2, () -> x.run(2, 10));
        CHECK.same("12: behind round 1", 10, x.steps());
        MaskParts y = toldRow(2, 0);
        CHECK.answers("9: behind the first of two", 2, () -> y.run(2, 2));
        CHECK.answers("9: behind the last one", 1, () -> y.run(2, 4));
    }

    /** Terms: "up to as many as are allowed": a round more for each stitch that counts. */
    private static void promise9RoundsUpToTheStitchesThatCount() {
        for (int stitches = 0; stitches < 4; stitches++) {
            MaskParts x = Scenes.shapes(1);
            for (int box = 0; box < 4; box++) {
                x.box(0, 100 * box, 0, 100 * box + 1, 1);
                x.stitch(0, box, box < stitches || box == 3);
            }
            x.pre(0, 0, 3);
            CHECK.answers("9: it cannot be, " + stitches, 1, () -> x.run(2, 20000));
            CHECK.same("12: two steps a round, " + stitches, 2 * (stitches + 1), x.steps());
        }
    }

    /** 30 stitches: 31 rounds, each of which ends with the first part. */
    private static void promise9MostRounds() {
        MaskParts x = Scenes.full();
        x.pre(0, 0, 3);
        CHECK.answers("9: it cannot be", 1, () -> x.run(3, 20000));
        CHECK.same("12: three steps a round", 3 * 31, x.steps());
        CHECK.answers("9: one step less", 2, () -> x.run(3, 3 * 31 - 1));
    }

    /** Terms: "with at most 0 stitches used, then 1": lesser colours do not come before. */
    private static void promise9FewestStitchesComeFirst() {
        MaskParts x = Scenes.shapes(2);
        x.box(0, 0, 0, 1, 1);
        x.box(0, 100, 0, 101, 1);
        x.box(1, 0, 0, 1, 1);
        x.stitch(0, 0, true);
        x.pre(1, 0, 0);
        CHECK.answers("9: without a stitch", 0, () -> x.run(2, 100));
        CHECK.same("11: none is used", 0, x.used());
        CHECK.same("10: both have 1", 1, x.colour(0, 0));
        CHECK.same("10: both have 1, though 0 were free", 1, x.colour(0, 1));
        x.pre(0, 1, 0);
        CHECK.answers("9: with one", 0, () -> x.run(2, 100));
        CHECK.same("11: one is used", 1, x.used());
    }

    /** Promise 11: "if that answered 0; else NONE". */
    private static void promise11NoneUnlessItIs() {
        CHECK.same("11: nothing there", -1, new MaskParts().used());
        MaskParts x = Scenes.triangle();
        CHECK.same("11: before a run", -1, x.used());
        x.run(3, 100);
        CHECK.same("11: it is", 0, x.used());
        x.run(2, 100);
        CHECK.same("11: it cannot be", -1, x.used());
        x.run(3, 100);
        x.run(3, 5);
        CHECK.same("11: spent", -1, x.used());
        x.run(3, 100);
        CHECK.noArgument("11: a refused run", () -> x.run(3, -1));
        CHECK.same("11: is none", 0, x.used());
    }

    /** Promise 11: from no stitch to all that can count. */
    private static void promise11FromNoneToAll() {
        int[][] rows = {{1, 1, 1, 1}, {0, 1, 1, 1}, {0, 0, 0, 1}, {0, 1, 1, 0}, {1, 0, 1, 1}, {0, 1, 0, 1}, {3, 2, 1, 0}};
        int[] due = {0, 1, 1, 2, 2, 3, 3};
        for (int i = 0; i < rows.length; i++) {
            MaskParts x = toldRow(rows[i]);
            CHECK.answers("9: row " + i, 0, () -> x.run(4, 20000));
            CHECK.same("11: row " + i, due[i], x.used());
        }
        CHECK.same("11: all thirty", 30, usedOfAllThirty());
    }

    /** Shapes that are not near to each other, their boxes told 0 and 1 by turns. */
    private static int usedOfAllThirty() {
        MaskParts x = Scenes.shapes(10);
        x.distance(1);
        for (int i = 0; i < 40; i++) {
            x.box(i / 4, 10 * i, 0, 10 * i + 1, 1);
            x.stitch(i / 4, i % 4, true);
            x.pre(i / 4, i % 4, i % 2);
        }
        CHECK.answers("9: all thirty", 0, () -> x.run(2, 20000));
        return x.used();
    }

    /** Promise 12: "Steps of the latest run()", whatever it answered; 0 before one. */
    private static void promise12StepsOfEachOutcome() {
        MaskParts x = Scenes.triangle();
        CHECK.same("12: before a run", 0, x.steps());
        x.run(3, 100);
        CHECK.same("12: it is", 6, x.steps());
        x.run(2, 100);
        CHECK.same("12: it cannot be", 10, x.steps());
        x.run(2, 7);
        CHECK.same("12: spent", 7, x.steps());
        x.run(2, 0);
        CHECK.same("12: spent at once", 0, x.steps());
    }

    /** Promise 12: a run's steps are its own, not those of runs before, and none of a refused one. */
    private static void promise12LatestRunAlone() {
        MaskParts x = Scenes.triangle();
        for (int i = 0; i < 5; i++) {
            x.run(3, 6);
            CHECK.same("12: again", 6, x.steps());
            CHECK.noArgument("12: refused", () -> x.run(1, 6));
            CHECK.same("12: behind a refused one", 6, x.steps());
        }
    }

    /** Promise 12: a search that would go on beyond 20000. */
    private static void promise12MostSteps() {
        MaskParts x = Scenes.full();
        for (int steps : new int[] {19999, 20000}) {
            CHECK.answers("9: spent with " + steps, 2, () -> x.run(4, steps));
            CHECK.same("12: all of " + steps, steps, x.steps());
        }
    }
}
