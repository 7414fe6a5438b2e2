import java.util.function.Function;

/**
 * Terms: "a call that throws changes nothing", not even what was coloured. Each refused call is made
 * behind a run that could, one that could not, one that was spent, and without a run; then the object
 * is to answer all that one answers to which the call was not made.
 */
public final class RefusedTest {
    private static final Check CHECK = new Check();
    private static final int MOST = Integer.MAX_VALUE;
    private static final int LEAST = Integer.MIN_VALUE;
    private static final Class<IndexOutOfBoundsException> INDEX = IndexOutOfBoundsException.class;
    private static final Class<IllegalArgumentException> ARGUMENT = IllegalArgumentException.class;
    private static final Class<IllegalStateException> STATE = IllegalStateException.class;
    /** Boxes that are none in Scenes.mixed(10): by shape, by box, by both. */
    private static final int[][] NO_BOXES = {
        {-1, 0}, {10, 0}, {MOST, 0}, {LEAST, 0}, {0, -1}, {0, 4}, {1, 1}, {1, -1}, {3, 0}, {9, 0}, {0, MOST}, {0, LEAST},
    };

    public static void main(String[] args) {
        promise2RefusedDistance();
        promise3RefusedShape();
        promise4RefusedBox();
        promise5RefusedStitch();
        promise6RefusedPre();
        promise7RefusedPart();
        promise8RefusedPair();
        promise9RefusedRun();
        promise10RefusedColour();
        promise13RefusedArea();
        promise15RefusedRingAt();
        promise17RefusedTold();
        CHECK.end();
    }

    private static MaskParts scene(int kind) {
        MaskParts x = Scenes.mixed(10);
        switch (kind) {
            case 0:
                x.run(3, 20000);
                break;
            case 1:
                x.run(2, 20000);
                break;
            case 2:
                x.run(3, 13);
                break;
            default:
        }
        return x;
    }

    private static void refused(String what, Class<? extends RuntimeException> due, Function<MaskParts, Object> call) {
        for (int kind = 0; kind < 4; kind++) {
            String text = what + ", kind " + kind;
            MaskParts x = scene(kind);
            MaskParts untouched = scene(kind);
            for (int turn = 0; turn < 2; turn++) {
                CHECK.refuses(text, due, () -> {
                    call.apply(x);
                    return 0;
                });
            }
            CHECK.same(text + ", asked", Snapshot.asked(untouched), Snapshot.asked(x));
            CHECK.same(text + ", told", Snapshot.told(untouched), Snapshot.told(x));
        }
    }

    private static void promise2RefusedDistance() {
        for (int d : new int[] {0, -1, -3, 1001, MOST, LEAST}) {
            refused("2: distance " + d, ARGUMENT, x -> x.distance(d));
        }
    }

    private static void promise3RefusedShape() {
        refused("3: eleventh shape", STATE, x -> x.shape());
    }

    private static void promise4RefusedBox() {
        for (int shape : new int[] {-1, 10, MOST, LEAST}) {
            refused("4: box in shape " + shape, INDEX, x -> x.box(shape, 0, 0, 1, 1));
            refused("4: wrong box in shape " + shape, INDEX, x -> x.box(shape, 0, 0, 0, 0));
        }
        int[][] wrong = {{0, 0, 0, 1}, {0, 0, 1, 0}, {-10001, 0, 1, 1}, {0, -10001, 1, 1}, {0, 0, 10001, 1}, {0, 0, 1, 10001}};
        for (int shape : new int[] {0, 1, 9}) {
            for (int[] w : wrong) {
                refused("4: wrong box, shape " + shape, ARGUMENT, x -> x.box(shape, w[0], w[1], w[2], w[3]));
            }
        }
        refused("4: fifth box", STATE, x -> x.box(0, 0, 0, 1, 1));
    }

    private static void promise5RefusedStitch() {
        for (int[] no : NO_BOXES) {
            refused("5: stitch " + no[0] + " " + no[1], INDEX, x -> x.stitch(no[0], no[1], true));
            refused("5: no stitch " + no[0] + " " + no[1], INDEX, x -> x.stitch(no[0], no[1], false));
        }
    }

    private static void promise6RefusedPre() {
        for (int[] no : NO_BOXES) {
            refused("6: pre " + no[0] + " " + no[1], INDEX, x -> x.pre(no[0], no[1], 0));
            refused("6: none " + no[0] + " " + no[1], INDEX, x -> x.pre(no[0], no[1], MaskParts.NONE));
            refused("6: pre 4 " + no[0] + " " + no[1], INDEX, x -> x.pre(no[0], no[1], 4));
        }
        for (int colour : new int[] {-2, 4, MOST, LEAST}) {
            refused("6: colour " + colour, ARGUMENT, x -> x.pre(0, 0, colour));
            refused("6: colour " + colour + ", none told", ARGUMENT, x -> x.pre(1, 0, colour));
        }
    }

    private static void promise7RefusedPart() {
        for (int[] no : NO_BOXES) {
            refused("7: part " + no[0] + " " + no[1], INDEX, x -> x.part(no[0], no[1]));
        }
    }

    private static void promise8RefusedPair() {
        for (int k : new int[] {-1, 3, MOST, LEAST}) {
            refused("8: pair " + k, INDEX, x -> x.pair(k, 0));
            refused("8: pair " + k + ", no which", INDEX, x -> x.pair(k, 2));
        }
        for (int which : new int[] {-1, 2, MOST, LEAST}) {
            refused("8: which " + which, ARGUMENT, x -> x.pair(0, which));
        }
    }

    private static void promise9RefusedRun() {
        for (int colours : new int[] {1, 0, -1, 5, MOST, LEAST}) {
            refused("9: colours " + colours, ARGUMENT, x -> x.run(colours, 20000));
        }
        for (int steps : new int[] {-1, 20001, MOST, LEAST}) {
            refused("9: steps " + steps, ARGUMENT, x -> x.run(3, steps));
        }
        refused("9: both", ARGUMENT, x -> x.run(1, -1));
    }

    private static void promise10RefusedColour() {
        for (int[] no : NO_BOXES) {
            refused("10: colour " + no[0] + " " + no[1], INDEX, x -> x.colour(no[0], no[1]));
        }
    }

    private static void promise13RefusedArea() {
        for (int colour : new int[] {-1, 4, MOST, LEAST}) {
            refused("13: area " + colour, ARGUMENT, x -> x.area(colour));
        }
    }

    private static void promise15RefusedRingAt() {
        for (int k : new int[] {-1, 3, MOST, LEAST}) {
            refused("15: ringAt " + k, INDEX, x -> x.ringAt(k));
        }
    }

    private static void promise17RefusedTold() {
        for (int what : new int[] {-1, 6, MOST, LEAST}) {
            refused("17: told " + what, ARGUMENT, x -> x.told(what));
        }
    }
}
