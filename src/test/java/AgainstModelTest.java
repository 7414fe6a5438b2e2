import java.util.function.Function;

/** All promises: long runs of calls of all kinds, right and wrong ones, on the program and on the plain model. */
public final class AgainstModelTest {
    private static final int OBJECTS = 400;
    private static final int LATTICES = 600;
    private static final int CALLS = 512;

    private final Check check = new Check();
    private long state = 20261115L;
    private int object;
    private int calls;
    private int spread;
    private int most;

    public static void main(String[] args) {
        AgainstModelTest test = new AgainstModelTest();
        for (int i = 0; i < OBJECTS; i++) {
            test.object = i;
            test.oneObject();
        }
        for (int i = 0; i < LATTICES; i++) {
            test.object = OBJECTS + i;
            test.oneLattice();
        }
        test.check.end();
    }

    private int pick(int from, int to) {
        state = state * 6364136223846793005L + 1442695040888963407L;
        return from + (int) ((state >>> 33) % (to - from + 1));
    }

    private void oneObject() {
        MaskParts x = new MaskParts();
        PlainModel m = new PlainModel();
        spread = pick(1, 10) * pick(1, 12);
        most = pick(2, 10);
        calls = 0;
        for (int i = 0; i < CALLS; i++) {
            if (pick(1, 100) <= (i < 120 ? 70 : 6)) {
                tell(x, m);
            } else {
                ask(x, m);
            }
        }
    }

    /** On a lattice only neighbours are near, so that the shortest odd ring is often a long one. */
    private void oneLattice() {
        MaskParts x = new MaskParts();
        PlainModel m = new PlainModel();
        calls = 0;
        both("distance", x, m, o -> (long) o.distance(4), o -> (long) o.distance(4));
        spread = pick(4, 7);
        for (int i = 0; i < 10; i++) {
            both("shape", x, m, o -> (long) o.shape(), o -> (long) o.shape());
        }
        fillLattice(x, m);
        compareRings(x, m);
        for (int colours = 2; colours <= 3; colours++) {
            int c = colours;
            int steps = object % 40 == 0 ? 20000 : 3000;
            both("run " + c, x, m, o -> (long) o.run(c, steps), o -> (long) o.run(c, steps));
            both("used", x, m, o -> (long) o.used(), o -> (long) o.used());
            both("steps", x, m, o -> (long) o.steps(), o -> (long) o.steps());
        }
    }

    private void fillLattice(MaskParts x, PlainModel m) {
        boolean[] taken = new boolean[100];
        int boxes = 0;
        for (int i = 0; i < 200 && boxes < 40; i++) {
            int site = 10 * pick(0, spread) + pick(0, spread);
            boolean wide = pick(1, 12) == 1;
            if (taken[site] || wide && taken[site + 1]) {
                continue;
            }
            taken[site] = true;
            taken[site + 1] |= wide;
            int shape = boxes % 10;
            int box = boxes / 10;
            boxes++;
            int ax = 4 * (site % 10);
            int ay = 4 * (site / 10);
            int bx = ax + (wide ? 5 : 1);
            boolean may = pick(1, 30) > 1;
            both("box", x, m, o -> (long) o.box(shape, ax, ay, bx, ay + 1),
                    o -> (long) o.box(shape, ax, ay, bx, ay + 1));
            both("stitch", x, m, o -> o.stitch(shape, box, may) ? 1L : 0L,
                    o -> o.stitch(shape, box, may) ? 1L : 0L);
        }
    }

    private void compareRings(MaskParts x, PlainModel m) {
        int length = m.ring();
        both("ring", x, m, o -> (long) o.ring(), o -> (long) length);
        both("groups", x, m, o -> (long) o.groups(), o -> (long) o.groups());
        for (int i = -1; i <= length; i++) {
            int k = i;
            both("ringAt " + k, x, m, o -> (long) o.ringAt(k), o -> (long) o.ringAt(k));
        }
    }

    private void tell(MaskParts x, PlainModel m) {
        int shape = pick(1, 30) == 1 ? pick(-1, 10) : pick(0, Math.max(0, m.told(0) - 1));
        int box = pick(1, 30) == 1 ? pick(-1, 4) : pick(0, 3);
        switch (pick(0, 11)) {
            case 0:
                int d = pick(1, 30) == 1 ? pick(-1, 1002) : pick(1, 9);
                both("distance " + d, x, m, o -> (long) o.distance(d), o -> (long) o.distance(d));
                break;
            case 1, 2, 3:
                if (m.told(0) < most || pick(1, 20) == 1) {
                    both("shape", x, m, o -> (long) o.shape(), o -> (long) o.shape());
                }
                break;
            case 4, 5, 6, 7:
                int ax = pick(0, spread);
                int ay = pick(0, spread);
                int bx = pick(1, 50) == 1 ? pick(-10002, 10002) : ax + pick(1, 4);
                int by = pick(1, 50) == 1 ? pick(-10002, 10002) : ay + pick(1, 4);
                both("box " + shape + " " + ax + " " + ay + " " + bx + " " + by, x, m,
                        o -> (long) o.box(shape, ax, ay, bx, by), o -> (long) o.box(shape, ax, ay, bx, by));
                break;
            case 8, 9, 10:
                boolean may = pick(0, 2) > 0;
                both("stitch " + shape + " " + box + " " + may, x, m,
                        o -> o.stitch(shape, box, may) ? 1L : 0L, o -> o.stitch(shape, box, may) ? 1L : 0L);
                break;
            default:
                int c = pick(1, 10) == 1 ? pick(-2, 4) : pick(-1, 1);
                both("pre " + shape + " " + box + " " + c, x, m,
                        o -> (long) o.pre(shape, box, c), o -> (long) o.pre(shape, box, c));
        }
    }

    private void ask(MaskParts x, PlainModel m) {
        int shape = pick(-1, Math.min(10, m.told(0)));
        int box = pick(0, 12) == 0 ? pick(-1, 4) : pick(0, 3);
        int k = pick(-1, pick(0, 12));
        switch (pick(0, 11)) {
            case 0:
                both("part " + shape + " " + box, x, m,
                        o -> (long) o.part(shape, box), o -> (long) o.part(shape, box));
                break;
            case 1:
                int at = pick(-1, m.told(3));
                int which = pick(0, 9) == 0 ? pick(-1, 2) : pick(0, 1);
                both("pair " + at + " " + which, x, m,
                        o -> (long) o.pair(at, which), o -> (long) o.pair(at, which));
                break;
            case 2, 3:
                int colours = pick(0, 30) == 0 ? pick(1, 5) : pick(2, 4);
                int steps = pick(0, 20) == 0 ? pick(-1, 20001) : pick(0, 5) == 0 ? 2000 : pick(0, 200);
                both("run " + colours + " " + steps, x, m,
                        o -> (long) o.run(colours, steps), o -> (long) o.run(colours, steps));
                break;
            case 4, 5:
                both("colour " + shape + " " + box, x, m,
                        o -> (long) o.colour(shape, box), o -> (long) o.colour(shape, box));
                break;
            case 6:
                both("used", x, m, o -> (long) o.used(), o -> (long) o.used());
                break;
            case 7:
                both("steps", x, m, o -> (long) o.steps(), o -> (long) o.steps());
                break;
            case 8:
                int c = pick(-1, 4);
                both("area " + c, x, m, o -> o.area(c), o -> o.area(c));
                break;
            case 9:
                both("ring", x, m, o -> (long) o.ring(), o -> (long) o.ring());
                both("ringAt " + k, x, m, o -> (long) o.ringAt(k), o -> (long) o.ringAt(k));
                break;
            case 10:
                both("groups", x, m, o -> (long) o.groups(), o -> (long) o.groups());
                break;
            default:
                int what = pick(-1, 6);
                both("told " + what, x, m, o -> (long) o.told(what), o -> (long) o.told(what));
        }
    }

    private void both(String what, MaskParts x, PlainModel m,
            Function<MaskParts, Long> call, Function<PlainModel, Long> modelCall) {
        // What calls behind the 512th answer is free.
        if (calls == CALLS) {
            return;
        }
        calls++;
        String got = outcome(x, call);
        String due = outcome(m, modelCall);
        if (!got.equals(due)) {
            check.say("object " + object + ": " + what + " answered " + got + ", due is " + due);
        }
    }

    private static <T> String outcome(T object, Function<T, Long> call) {
        try {
            return call.apply(object).toString();
        } catch (RuntimeException e) {
            return e.getClass().getSimpleName();
        }
    }
}
