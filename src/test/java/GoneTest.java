import java.util.function.Consumer;

/**
 * Terms: "What was coloured is gone with the next call that tells shapes, boxes, stitches, colours
 * or the distance (also if it tells what was told already), but one that throws." The calls of
 * promises 2 to 6, and what promises 10 to 13 answer behind them.
 */
public final class GoneTest {
    private static final Check CHECK = new Check();
    private static final int[][] RUNS = {{3, 20000, 0, 14}, {2, 20000, 1, 12}, {3, 13, 2, 13}};

    public static void main(String[] args) {
        promise2DistanceTakesItAway();
        promise3ShapeTakesItAway();
        promise4BoxTakesItAway();
        promise5StitchTakesItAway();
        promise6PreTakesItAway();
        promises7To17AskingTakesNothingAway();
        promise9NextRunTakesThePlace();
        promise9ColoursComeAnew();
        CHECK.end();
    }

    /** Behind a run that could, one that could not, and one that was spent. */
    private static void checkGone(String what, Consumer<MaskParts> telling) {
        for (int[] run : RUNS) {
            MaskParts x = Scenes.mixed(9);
            String text = what + " behind a run that answered " + run[2];
            CHECK.answers("9: before " + text, run[2], () -> x.run(run[0], run[1]));
            CHECK.same("12: before " + text, run[3], x.steps());
            telling.accept(x);
            checkNothingIsColoured(text, x);
        }
    }

    private static void checkNothingIsColoured(String what, MaskParts x) {
        for (int box = 0; box < 4; box++) {
            CHECK.same("10: " + what + ", box " + box, -1, x.colour(0, box));
        }
        CHECK.same("10: " + what + ", shape 1", -1, x.colour(1, 0));
        CHECK.same("10: " + what + ", shape 2", -1, x.colour(2, 0));
        CHECK.same("11: " + what, -1, x.used());
        CHECK.same("12: " + what, 0, x.steps());
        for (int colour = 0; colour < 4; colour++) {
            CHECK.same("13: " + what + ", colour " + colour, 0, x.area(colour));
        }
    }

    private static void promise2DistanceTakesItAway() {
        checkGone("the same distance", x -> x.distance(3));
        checkGone("another distance", x -> x.distance(4));
        checkGone("the least distance", x -> x.distance(1));
        checkGone("the greatest distance", x -> x.distance(1000));
    }

    private static void promise3ShapeTakesItAway() {
        checkGone("an empty shape", MaskParts::shape);
    }

    private static void promise4BoxTakesItAway() {
        checkGone("a far box", x -> x.box(1, 5000, 5000, 5001, 5001));
        checkGone("a box that is there", x -> x.box(1, 2, 0, 3, 1));
        checkGone("a box in an empty shape", x -> x.box(8, 5000, 5000, 5001, 5001));
    }

    private static void promise5StitchTakesItAway() {
        checkGone("a stitch told already", x -> x.stitch(0, 0, true));
        checkGone("a stitch taken back", x -> x.stitch(0, 0, false));
        checkGone("a new stitch", x -> x.stitch(0, 1, true));
        checkGone("none told already", x -> x.stitch(0, 1, false));
        checkGone("one that does not count, told already", x -> x.stitch(0, 3, true));
        checkGone("one that does not count", x -> x.stitch(1, 0, true));
        checkGone("none where none can count", x -> x.stitch(1, 0, false));
    }

    private static void promise6PreTakesItAway() {
        checkGone("a colour told already", x -> x.pre(0, 0, 0));
        checkGone("a colour taken back", x -> x.pre(0, 0, MaskParts.NONE));
        checkGone("none told already", x -> x.pre(1, 0, MaskParts.NONE));
        checkGone("the colour that it has", x -> x.pre(1, 0, 1));
        checkGone("another colour", x -> x.pre(1, 0, 3));
    }

    /** Calls that only ask, each by itself. */
    private static void promises7To17AskingTakesNothingAway() {
        for (int[] run : RUNS) {
            MaskParts x = Scenes.mixed(9);
            x.run(run[0], run[1]);
            String before = Snapshot.asked(x);
            x.part(0, 3);
            x.pair(2, 1);
            x.colour(0, 0);
            x.used();
            x.steps();
            x.area(3);
            x.ring();
            x.ringAt(0);
            x.groups();
            x.told(5);
            CHECK.same("asked behind a run that answered " + run[2], before, Snapshot.asked(x));
            CHECK.same("12: steps stay", run[3], x.steps());
        }
    }

    /** Promises 10 to 13: "by the latest run()": each run behind each other. */
    private static void promise9NextRunTakesThePlace() {
        for (int[] first : RUNS) {
            for (int[] second : RUNS) {
                MaskParts x = Scenes.mixed(9);
                MaskParts alone = Scenes.mixed(9);
                x.run(first[0], first[1]);
                x.run(second[0], second[1]);
                alone.run(second[0], second[1]);
                CHECK.same("the second run alone", Snapshot.asked(alone), Snapshot.asked(x));
            }
        }
    }

    /** What is gone comes back with a run alone, and with the same colours if the same is told. */
    private static void promise9ColoursComeAnew() {
        MaskParts x = Scenes.mixed(9);
        x.run(3, 20000);
        String before = Snapshot.asked(x);
        x.distance(4);
        x.distance(3);
        checkNothingIsColoured("told back", x);
        CHECK.answers("9: a run anew", 0, () -> x.run(3, 20000));
        CHECK.same("coloured anew", before, Snapshot.asked(x));
    }
}
