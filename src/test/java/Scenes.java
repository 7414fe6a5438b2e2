/** Objects that several tests begin with. */
final class Scenes {
    private Scenes() {
    }

    static MaskParts shapes(int count) {
        MaskParts x = new MaskParts();
        for (int i = 0; i < count; i++) {
            x.shape();
        }
        return x;
    }

    /** Single boxes of size 1, given by x and y in turn, each in a shape of its own. */
    static MaskParts dots(int distance, int... places) {
        MaskParts x = shapes(places.length / 2);
        x.distance(distance);
        for (int i = 0; i + 1 < places.length; i += 2) {
            x.box(i / 2, places[i], places[i + 1], places[i] + 1, places[i + 1] + 1);
        }
        return x;
    }

    /** Three parts, each near to both others. */
    static MaskParts triangle() {
        return dots(2, 0, 0, 2, 0, 1, 2);
    }

    /**
     * A shape of two far boxes that may be stitched; the other shapes want its first box in
     * colour 0 and its last one in colour 1.
     */
    static MaskParts stitchNeeded() {
        MaskParts x = shapes(3);
        x.distance(3);
        x.box(0, 0, 0, 1, 1);
        x.box(0, 100, 0, 102, 1);
        x.box(1, 2, 0, 3, 3);
        x.box(2, 103, 0, 104, 4);
        x.pre(1, 0, 1);
        x.pre(2, 0, 0);
        x.stitch(0, 0, true);
        return x;
    }

    static MaskParts full() {
        MaskParts x = shapes(10);
        for (int shape = 0; shape < 10; shape++) {
            for (int box = 0; box < 4; box++) {
                x.box(shape, 0, 0, 1 + box, 1);
                x.stitch(shape, box, true);
            }
        }
        return x;
    }
}
