/** Objects that several tests begin with. */
final class Scenes {
    private Scenes() {
    }

    static MaskParts shapes(int count) {
        MaskParts x = new MaskParts();
        for (int i = 0; i < count; i++) {
            x.shape();
        }
        return x;
    }

    /** Single boxes of size 1, given by x and y in turn, each in a shape of its own. */
    static MaskParts dots(int distance, int... places) {
        MaskParts x = shapes(places.length / 2);
        x.distance(distance);
        for (int i = 0; i + 1 < places.length; i += 2) {
            x.box(i / 2, places[i], places[i + 1], places[i] + 1, places[i + 1] + 1);
        }
        return x;
    }

    /** Three parts, each near to both others. */
    static MaskParts triangle() {
        return dots(2, 0, 0, 2, 0, 1, 2);
    }

    /**
     * A shape of two far boxes that may be stitched; the other shapes want its first box in
     * colour 0 and its last one in colour 1.
     */
    static MaskParts stitchNeeded() {
        MaskParts x = shapes(3);
        x.distance(3);
        x.box(0, 0, 0, 1, 1);
        x.box(0, 100, 0, 102, 1);
        x.box(1, 2, 0, 3, 3);
        x.box(2, 103, 0, 104, 4);
        x.pre(1, 0, 1);
        x.pre(2, 0, 0);
        x.stitch(0, 0, true);
        return x;
    }

    static MaskParts full() {
        MaskParts x = shapes(10);
        for (int shape = 0; shape < 10; shape++) {
            for (int box = 0; box < 4; box++) {
                x.box(shape, 0, 0, 1 + box, 1);
                x.stitch(shape, box, true);
            }
        }
        return x;
    }

    /** A shape for each part; each edge is a place of its own where two boxes are near. */
    static MaskParts graph(int parts, int[]... edges) {
        MaskParts x = shapes(parts);
        x.distance(3);
        for (int part = 0; part < parts; part++) {
            boolean isAlone = true;
            for (int k = 0; k < edges.length; k++) {
                for (int end = 0; end < 2; end++) {
                    if (edges[k][end] == part) {
                        int at = 50 * k + 2 * end;
                        x.box(part, at, 0, at + 1, 1);
                        isAlone = false;
                    }
                }
            }
            if (isAlone) {
                x.box(part, 50 * part, 100, 50 * part + 1, 101);
            }
        }
        return x;
    }

    /** Parts in the order of a ring, each near to the next one, the last one to the first. */
    static int[][] ringEdges(int... parts) {
        int[][] edges = new int[parts.length][];
        for (int i = 0; i < parts.length; i++) {
            edges[i] = new int[] {parts[i], parts[(i + 1) % parts.length]};
        }
        return edges;
    }

    /**
     * Something of everything: shape 0 is full and has a stitch that counts and one that does not,
     * shapes 1 and 2 have a box each, the others are empty. The parts are box 0 of shape 0, its
     * boxes 1 to 3, shape 1, shape 2; all but the second one are near to each other.
     * Three colours: 14 steps in two rounds, parts as 0, 1, 1, 2, the stitch is used.
     * Two colours: 12 steps in two rounds, it cannot be.
     */
    static MaskParts mixed(int shapes) {
        MaskParts x = shapes(shapes);
        x.distance(3);
        for (int i = 0; i < 4; i++) {
            x.box(0, 10 * i, 0, 10 * i + 1, 1);
        }
        x.box(1, 2, 0, 3, 1);
        x.box(2, 1, 2, 2, 3);
        x.stitch(0, 0, true);
        x.stitch(0, 3, true);
        x.pre(0, 0, 0);
        x.pre(0, 3, 1);
        x.pre(2, 0, 2);
        return x;
    }
}
