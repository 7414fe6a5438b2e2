/** Promises 7, 8, 16 and 17: parts, near pairs, groups, and how many there are. */
public final class PartsTest {
    private static final Check CHECK = new Check();

    public static void main(String[] args) {
        promise7Part();
        promise7PartsGoByShapes();
        promise8Pair();
        promise8TouchAndOverlap();
        promise8DistanceIsOfNearestPoints();
        promise8OnlyDifferentShapes();
        promise8ManyBoxesOnePair();
        promise16Groups();
        promise16GroupsOfLongChains();
        promise17Told();
        promise17Most();
        CHECK.end();
    }

    private static void promise7Part() {
        MaskParts x = Scenes.shapes(3);
        for (int i = 0; i < 4; i++) {
            x.box(0, i, 0, i + 1, 1);
        }
        x.box(2, 50, 0, 51, 1);
        x.box(2, 51, 0, 52, 1);
        x.stitch(0, 1, true);
        x.stitch(0, 3, true);
        x.stitch(2, 0, true);
        int[] due = {0, 0, 1, 1};
        for (int box = 0; box < 4; box++) {
            CHECK.same("part of box " + box, due[box], x.part(0, box));
        }
        CHECK.same("part behind an empty shape", 2, x.part(2, 0));
        CHECK.same("part behind a stitch", 3, x.part(2, 1));
        CHECK.noIndex("part of box 4", () -> x.part(0, 4));
        CHECK.noIndex("part of box -1", () -> x.part(0, -1));
        CHECK.noIndex("part in an empty shape", () -> x.part(1, 0));
        CHECK.noIndex("part of shape 3 of 3", () -> x.part(3, 0));
        CHECK.noIndex("part of shape -1", () -> x.part(-1, 0));
    }

    private static void promise7PartsGoByShapes() {
        MaskParts x = Scenes.shapes(2);
        x.box(1, 0, 0, 1, 1);
        CHECK.same("the only part", 0, x.part(1, 0));
        x.box(0, 0, 0, 1, 1);
        CHECK.same("the lesser shape comes first", 0, x.part(0, 0));
        CHECK.same("the greater shape comes second", 1, x.part(1, 0));
        x.box(0, 0, 0, 1, 1);
        x.stitch(0, 0, true);
        CHECK.same("a stitch moves what is behind it", 2, x.part(1, 0));
        x.stitch(0, 0, false);
        CHECK.same("and back", 1, x.part(1, 0));
    }

    private static void promise8Pair() {
        // Part 0 is near to 2 and 3, part 1 to 3.
        MaskParts x = Scenes.dots(3, 0, 0, 10, 0, -3, 0, 2, 0);
        x.box(3, 12, 0, 13, 1);
        int[][] due = {{0, 2}, {0, 3}, {1, 3}};
        CHECK.same("pairs", due.length, x.told(3));
        for (int k = 0; k < due.length; k++) {
            CHECK.same("lesser of " + k, due[k][0], x.pair(k, 0));
            CHECK.same("greater of " + k, due[k][1], x.pair(k, 1));
        }
        CHECK.noIndex("pair 3 of 3", () -> x.pair(3, 0));
        CHECK.noIndex("pair -1", () -> x.pair(-1, 0));
        CHECK.noArgument("which 2", () -> x.pair(0, 2));
        CHECK.noArgument("which -1", () -> x.pair(0, -1));
        CHECK.noIndex("no pair comes before no which", () -> x.pair(3, 2));
    }

    private static void promise8TouchAndOverlap() {
        MaskParts x = Scenes.shapes(4);
        x.distance(1);
        x.box(0, 0, 0, 10, 10);
        x.box(1, 10, 10, 20, 20);
        x.box(2, 2, 2, 3, 3);
        x.box(3, 11, 0, 12, 9);
        CHECK.same("touching and overlapping", 2, x.told(3));
        CHECK.same("a corner touches", 1, x.pair(0, 1));
        CHECK.same("one is inside", 2, x.pair(1, 1));
    }

    private static void promise8DistanceIsOfNearestPoints() {
        checkNear("3 and 4 make 5", 4, 5, 5, 0);
        checkNear("3 and 4 are less than 6", 4, 5, 6, 1);
        checkNear("straight 4", 5, 0, 4, 0);
        checkNear("straight 4 below 5", 5, 0, 5, 1);
        checkNear("upwards 4", 0, 5, 4, 0);
        checkNear("upwards 4 below 5", 0, 5, 5, 1);
        checkNear("far below", -1001, 0, 1000, 0);
        checkNear("just near below", -1000, 0, 1000, 1);
        checkNear("down and left", -4, -5, 5, 0);
        checkNear("down and left below 6", -4, -5, 6, 1);
        MaskParts x = Scenes.shapes(2);
        x.distance(1000);
        x.box(0, -10000, -10000, -9999, -9999);
        x.box(1, 9999, 9999, 10000, 10000);
        CHECK.same("from end to end", 0, x.told(3));
    }

    private static void checkNear(String what, int x, int y, int distance, int due) {
        CHECK.same(what, due, Scenes.dots(distance, 0, 0, x, y).told(3));
        CHECK.same(what + ", turned", due, Scenes.dots(distance, x, y, 0, 0).told(3));
    }

    private static void promise8OnlyDifferentShapes() {
        MaskParts x = Scenes.shapes(1);
        x.box(0, 0, 0, 1, 1);
        x.box(0, 0, 0, 1, 1);
        x.stitch(0, 0, true);
        CHECK.same("parts of one shape", 2, x.told(2));
        CHECK.same("are never near", 0, x.told(3));
    }

    private static void promise8ManyBoxesOnePair() {
        MaskParts x = Scenes.shapes(2);
        for (int i = 0; i < 4; i++) {
            x.box(0, i, 0, i + 1, 1);
            x.box(1, i, 2, i + 1, 3);
        }
        CHECK.same("sixteen near boxes are one pair", 1, x.told(3));
        x.stitch(0, 1, true);
        CHECK.same("two pairs", 2, x.told(3));
        CHECK.same("the second one's lesser", 1, x.pair(1, 0));
        CHECK.same("the second one's greater", 2, x.pair(1, 1));
    }

    private static void promise16Groups() {
        MaskParts x = Scenes.dots(3, 0, 0, 2, 0, 50, 0, 100, 0);
        CHECK.same("a pair and two alone", 3, x.groups());
        x.shape();
        CHECK.same("an empty shape is none", 3, x.groups());
        x.box(4, 52, 0, 53, 1);
        x.box(4, 102, 0, 103, 1);
        CHECK.same("one part joins two", 2, x.groups());
        x.stitch(4, 0, true);
        CHECK.same("a stitch joins too", 2, x.groups());
        x.box(4, 300, 300, 301, 301);
        x.stitch(4, 1, true);
        CHECK.same("over two stitches", 2, x.groups());
        x.distance(1);
        CHECK.same("the stitched parts are still one", 5, x.groups());
    }

    private static void promise16GroupsOfLongChains() {
        MaskParts x = Scenes.shapes(10);
        x.distance(2);
        for (int i = 0; i < 40; i++) {
            // From the middle to both sides by turns: near parts have numbers that are far apart.
            int at = i % 2 == 0 ? 20 - i / 2 : 21 + i / 2;
            x.box(i % 10, 2 * at, 0, 2 * at + 1, 1);
            x.stitch(i % 10, i / 10, true);
        }
        CHECK.same("parts", 40, x.told(2));
        CHECK.same("one chain", 39, x.told(3));
        CHECK.same("one chain is one group", 1, x.groups());
        x.distance(1);
        CHECK.same("stitches alone: a group for each shape", 10, x.groups());
        for (int i = 0; i < 40; i++) {
            x.stitch(i % 10, i / 10, false);
        }
        CHECK.same("no stitches: a group for each shape too", 10, x.groups());
    }

    private static void promise17Told() {
        MaskParts x = Scenes.triangle();
        x.box(1, 500, 500, 501, 501);
        x.stitch(1, 0, true);
        x.stitch(1, 1, true);
        x.shape();
        int[] due = {4, 4, 4, 3, 1, 2};
        for (int what = 0; what < due.length; what++) {
            CHECK.same("told " + what, due[what], x.told(what));
        }
        for (int wrong : new int[] {-1, 6, Integer.MAX_VALUE, Integer.MIN_VALUE}) {
            CHECK.noArgument("told " + wrong, () -> x.told(wrong));
        }
    }

    private static void promise17Most() {
        MaskParts x = Scenes.full();
        int[] due = {10, 40, 40, 720, 30, 10};
        for (int what = 0; what < due.length; what++) {
            CHECK.same("at most: told " + what, due[what], x.told(what));
        }
        CHECK.same("last pair's lesser", 35, x.pair(719, 0));
        CHECK.same("last pair's greater", 39, x.pair(719, 1));
        CHECK.noIndex("pair 720 of 720", () -> x.pair(720, 0));
        CHECK.same("one group", 1, x.groups());
    }
}
