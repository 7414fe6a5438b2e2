import java.util.Arrays;

/**
 * Shapes of boxes parted to two, three or four masks: parts that are too near to one another
 * get different colours, with as few stitches as can be.
 */
public final class MaskParts {
    public static final int NONE = -1;

    private static final int MOST_SHAPES = 10;
    private static final int MOST_BOXES = 4;
    private static final int MOST_SLOTS = MOST_SHAPES * MOST_BOXES;
    private static final int MOST_PARTS = MOST_SLOTS;
    private static final int FARTHEST = 10000;
    private static final int FIRST_DISTANCE = 10;
    private static final int MOST_DISTANCE = 1000;
    private static final int LEAST_COLOURS = 2;
    private static final int MOST_COLOURS = 4;
    private static final int ALL_COLOURS = 15;
    private static final int MOST_STEPS = 20000;

    private static final int COLOURED = 0;
    private static final int IMPOSSIBLE = 1;
    private static final int SPENT = 2;

    private final Plan plan;
    private final Net net;
    private final Painter painter;
    private final Ring oddRing;

    public MaskParts() {
        plan = new Plan();
        net = new Net(plan);
        painter = new Painter(net);
        oddRing = new Ring(net);
    }

    public int distance(int d) throws IllegalArgumentException {
        if (d < 1 || d > MOST_DISTANCE) {
            throw new IllegalArgumentException("no such distance");
        }
        int before = plan.leastGap;
        plan.leastGap = d;
        forgetFindings();
        return before;
    }

    public int shape() throws IllegalStateException {
        if (plan.shapes >= MOST_SHAPES) {
            throw new IllegalStateException("too many shapes");
        }
        plan.shapes++;
        forgetFindings();
        return plan.shapes - 1;
    }

    public int box(int shape, int x, int y, int x2, int y2)
            throws IndexOutOfBoundsException, IllegalArgumentException, IllegalStateException {
        if (!plan.hasShape(shape)) {
            throw new IndexOutOfBoundsException("no such shape");
        }
        if (!isSpan(x, x2) || !isSpan(y, y2)) {
            throw new IllegalArgumentException("no such box");
        }
        if (plan.boxes[shape] >= MOST_BOXES) {
            throw new IllegalStateException("too many boxes");
        }
        plan.addBox(shape, x, y, x2, y2);
        forgetFindings();
        return plan.boxes[shape];
    }

    public boolean stitch(int shape, int box, boolean may) throws IndexOutOfBoundsException {
        int slot = needSlot(shape, box);
        boolean before = plan.mayStitch[slot];
        plan.mayStitch[slot] = may;
        forgetFindings();
        return before;
    }

    public int pre(int shape, int box, int colour)
            throws IndexOutOfBoundsException, IllegalArgumentException {
        int slot = needSlot(shape, box);
        if (colour != NONE && !isColour(colour)) {
            throw new IllegalArgumentException("no such colour");
        }
        int before = plan.wanted[slot];
        plan.wanted[slot] = colour;
        forgetFindings();
        return before;
    }

    public int part(int shape, int box) throws IndexOutOfBoundsException {
        int slot = needSlot(shape, box);
        net.refresh();
        return net.partOf[slot];
    }

    public int pair(int k, int which) throws IndexOutOfBoundsException, IllegalArgumentException {
        net.refresh();
        if (k < 0 || k >= net.pairs) {
            throw new IndexOutOfBoundsException("no such pair");
        }
        if (which != 0 && which != 1) {
            throw new IllegalArgumentException("a pair has parts 0 and 1");
        }
        return net.partOfPair(k, which);
    }

    public int run(int colours, int steps) throws IllegalArgumentException {
        if (colours < LEAST_COLOURS || colours > MOST_COLOURS) {
            throw new IllegalArgumentException("no such number of colours");
        }
        if (steps < 0 || steps > MOST_STEPS) {
            throw new IllegalArgumentException("no such number of steps");
        }
        net.refresh();
        painter.paint(colours, steps);
        return painter.outcome;
    }

    public int colour(int shape, int box) throws IndexOutOfBoundsException {
        int slot = needSlot(shape, box);
        return painter.outcome == COLOURED ? painter.hue[net.partOf[slot]] : NONE;
    }

    public int used() {
        return painter.outcome == COLOURED ? painter.stitchesUsed() : NONE;
    }

    public int steps() {
        return painter.taken;
    }

    public long area(int colour) throws IllegalArgumentException {
        if (!isColour(colour)) {
            throw new IllegalArgumentException("no such colour");
        }
        return painter.outcome == COLOURED ? sizeOf(colour) : 0L;
    }

    public int ring() {
        net.refresh();
        oddRing.refresh();
        return oddRing.length;
    }

    public int ringAt(int k) throws IndexOutOfBoundsException {
        net.refresh();
        oddRing.refresh();
        if (k < 0 || k >= oddRing.length) {
            throw new IndexOutOfBoundsException("no such place in the ring");
        }
        return oddRing.row[k];
    }

    public int groups() {
        net.refresh();
        return net.countGroups();
    }

    public int told(int what) throws IllegalArgumentException {
        net.refresh();
        switch (what) {
            case 0:
                return plan.shapes;
            case 1:
                return plan.countBoxes();
            case 2:
                return net.parts;
            case 3:
                return net.pairs;
            case 4:
                return net.stitches;
            case 5:
                return plan.leastGap;
            default:
                throw new IllegalArgumentException("nothing is told under this number");
        }
    }

    private void forgetFindings() {
        net.fresh = false;
        oddRing.fresh = false;
        painter.clear();
    }

    private int needSlot(int shape, int box) throws IndexOutOfBoundsException {
        if (!plan.hasShape(shape) || box < 0 || box >= plan.boxes[shape]) {
            throw new IndexOutOfBoundsException("no such box");
        }
        return Plan.slot(shape, box);
    }

    private long sizeOf(int colour) {
        long sum = 0;
        for (int shape = 0; shape < plan.shapes; shape++) {
            for (int box = 0; box < plan.boxes[shape]; box++) {
                int slot = Plan.slot(shape, box);
                if (painter.hue[net.partOf[slot]] == colour) {
                    sum += plan.size(slot);
                }
            }
        }
        return sum;
    }

    private static boolean isSpan(int from, int to) {
        return from >= -FARTHEST && to <= FARTHEST && from < to;
    }

    private static boolean isColour(int colour) {
        return colour >= 0 && colour < MOST_COLOURS;
    }

    private static long bit(int part) {
        return 1L << part;
    }

    /** What was told. A box's slot is its place in the rows over all boxes. */
    private static final class Plan {
        int leastGap = FIRST_DISTANCE;
        int shapes = 0;
        final int[] boxes = new int[MOST_SHAPES];
        final int[] left = new int[MOST_SLOTS];
        final int[] right = new int[MOST_SLOTS];
        final int[] low = new int[MOST_SLOTS];
        final int[] high = new int[MOST_SLOTS];
        final boolean[] mayStitch = new boolean[MOST_SLOTS];
        final int[] wanted = new int[MOST_SLOTS];

        Plan() {
            Arrays.fill(wanted, NONE);
        }

        static int slot(int shape, int box) {
            return shape * MOST_BOXES + box;
        }

        boolean hasShape(int shape) {
            return shape >= 0 && shape < shapes;
        }

        void addBox(int shape, int x, int y, int x2, int y2) {
            int slot = slot(shape, boxes[shape]);
            left[slot] = x;
            low[slot] = y;
            right[slot] = x2;
            high[slot] = y2;
            boxes[shape]++;
        }

        int countBoxes() {
            int count = 0;
            for (int shape = 0; shape < shapes; shape++) {
                count += boxes[shape];
            }
            return count;
        }

        long size(int slot) {
            return (long) (right[slot] - left[slot]) * (high[slot] - low[slot]);
        }

        boolean tooNear(int slot, int other) {
            long across = gap(left[slot], right[slot], left[other], right[other]);
            long along = gap(low[slot], high[slot], low[other], high[other]);
            return across * across + along * along < (long) leastGap * leastGap;
        }

        private static long gap(int from, int to, int otherFrom, int otherTo) {
            return Math.max(0, Math.max(otherFrom - to, from - otherTo));
        }
    }

    /** The parts that the plan makes, and which of them are near, as a row of bits for each. */
    private static final class Net {
        private final Plan plan;
        boolean fresh = false;
        int parts = 0;
        int pairs = 0;
        int stitches = 0;
        final int[] partOf = new int[MOST_SLOTS];
        final long[] near = new long[MOST_PARTS];
        final boolean[] stitchedToLast = new boolean[MOST_PARTS];
        final int[] coloursLeft = new int[MOST_PARTS];

        Net(Plan plan) {
            this.plan = plan;
        }

        void refresh() {
            if (!fresh) {
                numberParts();
                findNear();
                fresh = true;
            }
        }

        private void numberParts() {
            parts = 0;
            stitches = 0;
            for (int shape = 0; shape < plan.shapes; shape++) {
                for (int box = 0; box < plan.boxes[shape]; box++) {
                    addToParts(box, Plan.slot(shape, box));
                }
            }
        }

        private void addToParts(int box, int slot) {
            if (box == 0) {
                openPart(false);
            } else if (plan.mayStitch[slot - 1]) {
                openPart(true);
                stitches++;
            }
            partOf[slot] = parts - 1;
            if (plan.wanted[slot] != NONE) {
                coloursLeft[parts - 1] &= 1 << plan.wanted[slot];
            }
        }

        private void openPart(boolean stitched) {
            near[parts] = 0L;
            stitchedToLast[parts] = stitched;
            coloursLeft[parts] = ALL_COLOURS;
            parts++;
        }

        private void findNear() {
            pairs = 0;
            for (int shape = 0; shape < plan.shapes; shape++) {
                for (int other = shape + 1; other < plan.shapes; other++) {
                    linkNearBoxes(shape, other);
                }
            }
        }

        private void linkNearBoxes(int shape, int other) {
            for (int box = 0; box < plan.boxes[shape]; box++) {
                int slot = Plan.slot(shape, box);
                for (int otherBox = 0; otherBox < plan.boxes[other]; otherBox++) {
                    int otherSlot = Plan.slot(other, otherBox);
                    if (plan.tooNear(slot, otherSlot)) {
                        link(partOf[slot], partOf[otherSlot]);
                    }
                }
            }
        }

        private void link(int part, int other) {
            if (!areNear(part, other)) {
                near[part] |= bit(other);
                near[other] |= bit(part);
                pairs++;
            }
        }

        boolean areNear(int part, int other) {
            return (near[part] & bit(other)) != 0L;
        }

        int partOfPair(int k, int which) {
            int toSkip = k;
            for (int lesser = 0; lesser < parts; lesser++) {
                for (int greater = lesser + 1; greater < parts; greater++) {
                    if (areNear(lesser, greater)) {
                        if (toSkip == 0) {
                            return which == 0 ? lesser : greater;
                        }
                        toSkip--;
                    }
                }
            }
            return NONE;
        }

        /** All parts that are near to one of these. */
        long nearTo(long some) {
            long found = 0L;
            for (int part = 0; part < parts; part++) {
                if ((some & bit(part)) != 0L) {
                    found |= near[part];
                }
            }
            return found;
        }

        int countGroups() {
            int groups = 0;
            long seen = 0L;
            for (int part = 0; part < parts; part++) {
                if ((seen & bit(part)) == 0L) {
                    seen |= groupOf(part);
                    groups++;
                }
            }
            return groups;
        }

        private long groupOf(int part) {
            long group = bit(part);
            long before = 0L;
            // Each turn but the last one brings a part, so there are never more turns than parts.
            for (int turn = 0; turn < parts && group != before; turn++) {
                before = group;
                group |= nearTo(group) | stitchedTo(group);
            }
            return group;
        }

        private long stitchedTo(long some) {
            long found = 0L;
            for (int part = 1; part < parts; part++) {
                long both = bit(part - 1) | bit(part);
                if (stitchedToLast[part] && (some & both) != 0L) {
                    found |= both;
                }
            }
            return found;
        }
    }

    /** Looks for colours, and keeps what the latest run found. */
    private static final class Painter {
        private final Net net;
        int outcome = NONE;
        int taken = 0;
        final int[] hue = new int[MOST_PARTS];
        private final int[] usedUpTo = new int[MOST_PARTS];
        private final long[] painted = new long[MOST_COLOURS];

        Painter(Net net) {
            this.net = net;
        }

        void clear() {
            outcome = NONE;
            taken = 0;
        }

        void paint(int colours, int budget) {
            taken = 0;
            outcome = IMPOSSIBLE;
            for (int most = 0; most <= net.stitches && outcome == IMPOSSIBLE; most++) {
                outcome = search(colours, budget, most);
            }
        }

        int stitchesUsed() {
            return net.parts == 0 ? 0 : usedUpTo[net.parts - 1];
        }

        private int search(int colours, int budget, int most) {
            if (net.parts == 0) {
                return COLOURED;
            }
            Arrays.fill(painted, 0L);
            int at = 0;
            hue[0] = 0;
            while (taken < budget) {
                taken++;
                if (fits(at, most)) {
                    painted[hue[at]] |= bit(at);
                    at++;
                    if (at == net.parts) {
                        return COLOURED;
                    }
                    hue[at] = 0;
                } else {
                    at = goOn(at, colours);
                    if (at < 0) {
                        return IMPOSSIBLE;
                    }
                }
            }
            return SPENT;
        }

        /** Whether the part's colour can be kept; painted has the parts before it and no other. */
        private boolean fits(int at, int most) {
            usedUpTo[at] = usedWith(at);
            return (net.coloursLeft[at] & (1 << hue[at])) != 0
                    && (painted[hue[at]] & net.near[at]) == 0L
                    && usedUpTo[at] <= most;
        }

        private int usedWith(int at) {
            if (at == 0) {
                return 0;
            }
            boolean uses = net.stitchedToLast[at] && hue[at] != hue[at - 1];
            return usedUpTo[at - 1] + (uses ? 1 : 0);
        }

        /** Gives the next colour to the latest part that has one left: that part, or NONE. */
        private int goOn(int from, int colours) {
            for (int at = from; at >= 0; at--) {
                painted[hue[at]] &= ~bit(at);
                if (hue[at] + 1 < colours) {
                    hue[at]++;
                    return at;
                }
            }
            return NONE;
        }
    }

    /** The shortest odd ring that is first as a row of numbers. */
    private static final class Ring {
        private static final int LONGEST_WALK = 2 * MOST_PARTS;

        private final Net net;
        boolean fresh = false;
        int length = 0;
        final int[] row = new int[MOST_PARTS];
        private final long[] reached = new long[LONGEST_WALK + 1];

        Ring(Net net) {
            this.net = net;
        }

        /** The net must be fresh. */
        void refresh() {
            if (!fresh) {
                find();
                fresh = true;
            }
        }

        private void find() {
            length = 0;
            for (int part = 0; part < net.parts; part++) {
                int walk = oddWalkFrom(part);
                if (walk != 0 && (length == 0 || walk < length)) {
                    length = walk;
                    row[0] = part;
                }
            }
            if (length != 0) {
                fillRow();
            }
        }

        /**
         * How long the shortest odd walk from a part back to it is, or 0. Of all parts' walks the
         * shortest one is a ring: if it met a part twice, one of its two loops were odd and shorter.
         */
        private int oddWalkFrom(int start) {
            long seenOdd = 0L;
            long seenEven = bit(start);
            reached[0] = bit(start);
            for (int steps = 1; steps <= LONGEST_WALK && reached[steps - 1] != 0L; steps++) {
                long next = net.nearTo(reached[steps - 1]);
                if ((steps & 1) != 0) {
                    reached[steps] = next & ~seenOdd;
                    seenOdd |= next;
                    if ((next & bit(start)) != 0L) {
                        return steps;
                    }
                } else {
                    reached[steps] = next & ~seenEven;
                    seenEven |= next;
                }
            }
            return 0;
        }

        /** Takes the least part at each place from which the way back is just as long as is left. */
        private void fillRow() {
            oddWalkFrom(row[0]);
            for (int place = 1; place < length; place++) {
                row[place] = leastOf(net.near[row[place - 1]] & reached[length - place]);
            }
        }

        private int leastOf(long some) {
            int part = 0;
            while (part < net.parts - 1 && (some & bit(part)) == 0L) {
                part++;
            }
            return part;
        }
    }
}
