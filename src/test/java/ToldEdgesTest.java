/** Edges of promise 17: what is told, from nothing to as much as there may be. */
public final class ToldEdgesTest {
    private static final Check CHECK = new Check();

    public static void main(String[] args) {
        promise17NothingIsTold();
        promise17AsMuchAsThereMayBe();
        promise17WhatThatIsNone();
        promise17EachNumberAlone();
        promise17StitchesThatCountAlone();
        promise17RefusedCallsAreNotCounted();
        promise17ARunTellsNothing();
        CHECK.end();
    }

    private static void checkTold(String what, MaskParts x, int... due) {
        for (int k = 0; k < due.length; k++) {
            int n = k;
            CHECK.answers("17: " + what + ", told " + k, due[k], () -> x.told(n));
        }
    }

    private static void promise17NothingIsTold() {
        checkTold("new", new MaskParts(), 0, 0, 0, 0, 0, 10);
    }

    private static void promise17AsMuchAsThereMayBe() {
        MaskParts x = Scenes.full();
        x.distance(1000);
        checkTold("full", x, 10, 40, 40, 720, 30, 1000);
    }

    /** "another number is none that is told": in a new object and in a full one. */
    private static void promise17WhatThatIsNone() {
        for (MaskParts x : new MaskParts[] {new MaskParts(), Scenes.full()}) {
            for (int wrong : new int[] {-1, -2, 6, 7, Integer.MAX_VALUE, Integer.MIN_VALUE}) {
                CHECK.noArgument("17: told " + wrong, () -> x.told(wrong));
            }
        }
    }

    /** Each call changes its own numbers alone. */
    private static void promise17EachNumberAlone() {
        MaskParts x = new MaskParts();
        x.shape();
        checkTold("a shape", x, 1, 0, 0, 0, 0, 10);
        x.shape();
        checkTold("two shapes", x, 2, 0, 0, 0, 0, 10);
        x.box(0, 0, 0, 1, 1);
        checkTold("a box", x, 2, 1, 1, 0, 0, 10);
        x.box(0, 0, 0, 1, 1);
        checkTold("two boxes", x, 2, 2, 1, 0, 0, 10);
        x.box(1, 0, 0, 1, 1);
        checkTold("a near box", x, 2, 3, 2, 1, 0, 10);
        x.stitch(0, 0, true);
        checkTold("a stitch", x, 2, 3, 3, 2, 1, 10);
        x.distance(1);
        checkTold("a distance", x, 2, 3, 3, 2, 1, 1);
        x.pre(0, 0, 3);
        checkTold("a colour", x, 2, 3, 3, 2, 1, 1);
    }

    /** Promise 17: "stitches that are allowed and count". */
    private static void promise17StitchesThatCountAlone() {
        MaskParts x = Scenes.shapes(2);
        x.box(0, 0, 0, 1, 1);
        x.box(1, 100, 0, 101, 1);
        x.stitch(0, 0, true);
        x.stitch(1, 0, true);
        checkTold("none counts", x, 2, 2, 2, 0, 0, 10);
        x.box(1, 200, 0, 201, 1);
        checkTold("one counts", x, 2, 3, 3, 0, 1, 10);
        x.stitch(1, 0, true);
        checkTold("told again", x, 2, 3, 3, 0, 1, 10);
        x.stitch(1, 0, false);
        checkTold("no longer allowed", x, 2, 3, 2, 0, 0, 10);
    }

    private static void promise17RefusedCallsAreNotCounted() {
        MaskParts x = Scenes.full();
        CHECK.noState("17: an eleventh shape", x::shape);
        CHECK.noState("17: a fifth box", () -> x.box(0, 0, 0, 1, 1));
        CHECK.noArgument("17: a distance that is none", () -> x.distance(1001));
        CHECK.noIndex("17: a stitch that is none", () -> x.stitch(0, 4, true) ? 1 : 0);
        checkTold("behind refused calls", x, 10, 40, 40, 720, 30, 10);
    }

    private static void promise17ARunTellsNothing() {
        MaskParts x = Scenes.mixed(9);
        for (int steps : new int[] {20000, 13}) {
            x.run(3, steps);
            checkTold("behind a run of " + steps, x, 9, 6, 4, 3, 1, 3);
        }
    }
}
