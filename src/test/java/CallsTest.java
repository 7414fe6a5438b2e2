/** What it is: "An object is used for at most 512 calls after it has been made": the last one holds too. */
public final class CallsTest {
    private static final Check CHECK = new Check();
    private static final int CALLS = 512;

    public static void main(String[] args) {
        promise2DistanceToTheLastCall();
        promise3RefusedToTheLastCall();
        promise5StitchesToTheLastCall();
        promise6ColoursToldToTheLastCall();
        promises9And12DearRunsToTheLastCall();
        promises9To13ColouredByTheLastCalls();
        promise14RingsToTheLastCall();
        CHECK.end();
    }

    private static void promise2DistanceToTheLastCall() {
        MaskParts x = new MaskParts();
        int before = 10;
        for (int call = 1; call <= CALLS; call++) {
            int d = 1 + call * 37 % 1000;
            CHECK.answers("2: call " + call, before, () -> x.distance(d));
            before = d;
        }
    }

    private static void promise3RefusedToTheLastCall() {
        MaskParts x = Scenes.shapes(10);
        for (int call = 11; call < CALLS; call++) {
            CHECK.noState("3: call " + call, x::shape);
        }
        CHECK.answers("17: the last call", 10, () -> x.told(0));
    }

    private static void promise5StitchesToTheLastCall() {
        MaskParts x = Scenes.shapes(1);
        x.box(0, 0, 0, 1, 1);
        x.box(0, 9, 9, 10, 10);
        for (int call = 4; call < CALLS; call += 2) {
            boolean may = call % 4 == 0;
            CHECK.same("5: call " + call, !may && call > 4, x.stitch(0, 0, may));
            CHECK.same("7: call " + (call + 1), may ? 1 : 0, x.part(0, 1));
        }
    }

    private static void promise6ColoursToldToTheLastCall() {
        MaskParts x = Scenes.shapes(1);
        x.box(0, 0, 0, 1, 1);
        for (int call = 3; call + 2 <= CALLS; call += 3) {
            int c = call % 4;
            x.pre(0, 0, c);
            CHECK.answers("9: call " + (call + 1), 0, () -> x.run(4, 20000));
            CHECK.same("10: call " + (call + 2), c, x.colour(0, 0));
        }
    }

    /** 40 boxes, told with 90 calls; all that are left are runs that spend all steps, and steps(). */
    private static void promises9And12DearRunsToTheLastCall() {
        MaskParts x = Scenes.full();
        for (int call = 91; call < CALLS; call += 2) {
            CHECK.answers("9: call " + call, 2, () -> x.run(4, 20000));
            CHECK.same("12: call " + (call + 1), 20000, x.steps());
        }
    }

    private static void promises9To13ColouredByTheLastCalls() {
        MaskParts x = Scenes.triangle();
        for (int call = 8; call < CALLS - 6; call++) {
            CHECK.answers("9: call " + call, 1, () -> x.run(2, 20000));
        }
        CHECK.answers("9: at last", 0, () -> x.run(3, 20000));
        CHECK.same("10: at last", 2, x.colour(2, 0));
        CHECK.same("11: at last", 0, x.used());
        CHECK.same("12: at last", 6, x.steps());
        CHECK.same("13: at last", 1, x.area(2));
        CHECK.same("14: at last", 3, x.ring());
    }

    private static void promise14RingsToTheLastCall() {
        MaskParts x = Scenes.triangle();
        for (int call = 8; call + 3 <= CALLS; call += 4) {
            boolean isNear = call % 8 == 0;
            x.distance(isNear ? 2 : 1);
            CHECK.same("14: call " + (call + 1), isNear ? 3 : 0, x.ring());
            CHECK.same("16: call " + (call + 2), isNear ? 1 : 3, x.groups());
            CHECK.same("17: call " + (call + 3), isNear ? 3 : 0, x.told(3));
        }
    }
}
