/** What an object answers, as one text: objects in the same state have the same. */
final class Snapshot {
    private static final int MOST_PAIRS = 12;

    private final MaskParts x;
    private final StringBuilder out = new StringBuilder();

    private Snapshot(MaskParts x) {
        this.x = x;
    }

    /** All that can be asked without telling something. */
    static String asked(MaskParts x) {
        Snapshot s = new Snapshot(x);
        s.counts();
        s.boxes();
        s.colouring();
        s.nearness();
        return s.out.toString();
    }

    /** What only a telling call answers. The object is told other things by this. */
    static String told(MaskParts x) {
        Snapshot s = new Snapshot(x);
        for (int shape = 0; shape < x.told(0); shape++) {
            for (int box = 0; box < 4 && s.hasBox(shape, box); box++) {
                s.add("pre", x.pre(shape, box, MaskParts.NONE));
                s.add("stitch", x.stitch(shape, box, false) ? 1 : 0);
            }
        }
        s.add("distance", x.distance(10));
        return s.out.toString();
    }

    private void counts() {
        for (int what = 0; what <= 5; what++) {
            add("told", x.told(what));
        }
    }

    private void boxes() {
        for (int shape = 0; shape < x.told(0); shape++) {
            for (int box = 0; box < 4 && hasBox(shape, box); box++) {
                add("part", x.part(shape, box));
                add("colour", x.colour(shape, box));
            }
        }
    }

    private void colouring() {
        add("used", x.used());
        add("steps", x.steps());
        for (int colour = 0; colour < 4; colour++) {
            add("area", x.area(colour));
        }
    }

    private void nearness() {
        int pairs = Math.min(x.told(3), MOST_PAIRS);
        for (int k = 0; k < pairs; k++) {
            add("lesser", x.pair(k, 0));
            add("greater", x.pair(k, 1));
        }
        int length = x.ring();
        add("ring", length);
        for (int k = 0; k < length; k++) {
            add("ringAt", x.ringAt(k));
        }
        add("groups", x.groups());
    }

    private boolean hasBox(int shape, int box) {
        try {
            x.part(shape, box);
            return true;
        } catch (IndexOutOfBoundsException e) {
            return false;
        }
    }

    private void add(String what, long answer) {
        out.append(what).append(' ').append(answer).append("; ");
    }
}
