import java.util.ArrayList;
import java.util.List;

/** The document's words done in the simplest way, without keeping anything that can be found anew. */
final class PlainModel {
    private static final class Box {
        int x;
        int y;
        int x2;
        int y2;
        boolean stitch;
        int pre = -1;
        int part;
    }

    private final List<List<Box>> shapes = new ArrayList<>();
    private int distance = 10;
    private int latest = -1;
    private int steps;
    private int[] colours = new int[0];

    private void gone() {
        latest = -1;
        steps = 0;
    }

    int distance(int d) {
        require(d >= 1 && d <= 1000);
        int was = distance;
        distance = d;
        gone();
        return was;
    }

    int shape() {
        if (shapes.size() == 10) {
            throw new IllegalStateException();
        }
        shapes.add(new ArrayList<>());
        gone();
        return shapes.size() - 1;
    }

    int box(int shape, int x, int y, int x2, int y2) {
        List<Box> boxes = shapeAt(shape);
        for (int v : new int[] {x, y, x2, y2}) {
            require(v >= -10000 && v <= 10000);
        }
        require(x2 > x && y2 > y);
        if (boxes.size() == 4) {
            throw new IllegalStateException();
        }
        Box box = new Box();
        box.x = x;
        box.y = y;
        box.x2 = x2;
        box.y2 = y2;
        boxes.add(box);
        gone();
        return boxes.size();
    }

    boolean stitch(int shape, int box, boolean may) {
        Box b = boxAt(shape, box);
        boolean was = b.stitch;
        b.stitch = may;
        gone();
        return was;
    }

    int pre(int shape, int box, int colour) {
        Box b = boxAt(shape, box);
        require(colour >= -1 && colour <= 3);
        int was = b.pre;
        b.pre = colour;
        gone();
        return was;
    }

    int part(int shape, int box) {
        Box b = boxAt(shape, box);
        parts();
        return b.part;
    }

    int pair(int k, int which) {
        List<int[]> pairs = pairs();
        if (k < 0 || k >= pairs.size()) {
            throw new IndexOutOfBoundsException();
        }
        require(which == 0 || which == 1);
        return pairs.get(k)[which];
    }

    int run(int count, int most) {
        require(count >= 2 && count <= 4);
        require(most >= 0 && most <= 20000);
        List<List<Box>> parts = parts();
        steps = 0;
        latest = 1;
        for (int limit = 0; limit <= stitches() && latest == 1; limit++) {
            colours = new int[parts.size()];
            latest = from(0, parts, count, most, limit);
        }
        return latest;
    }

    int colour(int shape, int box) {
        Box b = boxAt(shape, box);
        parts();
        return latest == 0 ? colours[b.part] : -1;
    }

    int used() {
        return latest == 0 ? usedBefore(colours.length, parts()) : -1;
    }

    int steps() {
        return steps;
    }

    long area(int colour) {
        require(colour >= 0 && colour <= 3);
        long sum = 0;
        if (latest == 0) {
            for (List<Box> part : parts()) {
                for (Box b : part) {
                    if (colours[b.part] == colour) {
                        sum += (long) (b.x2 - b.x) * (b.y2 - b.y);
                    }
                }
            }
        }
        return sum;
    }

    int ring() {
        return theRing().size();
    }

    int ringAt(int k) {
        List<Integer> ring = theRing();
        if (k < 0 || k >= ring.size()) {
            throw new IndexOutOfBoundsException();
        }
        return ring.get(k);
    }

    int groups() {
        List<List<Box>> parts = parts();
        int[] group = new int[parts.size()];
        int count = parts.size();
        for (int i = 0; i < group.length; i++) {
            group[i] = i;
        }
        for (int i = 0; i < group.length; i++) {
            for (int j = 0; j < i; j++) {
                boolean joined = near(parts, i, j) || j == i - 1 && shapeOf(parts, i) == shapeOf(parts, j);
                if (joined && group[i] != group[j]) {
                    int from = group[i];
                    int to = group[j];
                    for (int m = 0; m < group.length; m++) {
                        group[m] = group[m] == from ? to : group[m];
                    }
                    count--;
                }
            }
        }
        return count;
    }

    int told(int what) {
        require(what >= 0 && what <= 5);
        int boxes = 0;
        for (List<Box> shape : shapes) {
            boxes += shape.size();
        }
        return new int[] {shapes.size(), boxes, parts().size(), pairs().size(), stitches(), distance}[what];
    }

    private static void require(boolean holds) {
        if (!holds) {
            throw new IllegalArgumentException();
        }
    }

    private List<Box> shapeAt(int shape) {
        return shapes.get(shape);
    }

    private Box boxAt(int shape, int box) {
        return shapeAt(shape).get(box);
    }

    private List<List<Box>> parts() {
        List<List<Box>> parts = new ArrayList<>();
        for (List<Box> shape : shapes) {
            boolean open = false;
            for (Box b : shape) {
                if (!open) {
                    parts.add(new ArrayList<>());
                }
                b.part = parts.size() - 1;
                parts.get(b.part).add(b);
                open = !b.stitch;
            }
        }
        return parts;
    }

    private int stitches() {
        int count = 0;
        for (List<Box> shape : shapes) {
            for (int i = 0; i + 1 < shape.size(); i++) {
                count += shape.get(i).stitch ? 1 : 0;
            }
        }
        return count;
    }

    private List<Box> shapeOf(List<List<Box>> parts, int part) {
        for (List<Box> shape : shapes) {
            for (Box b : shape) {
                if (b == parts.get(part).get(0)) {
                    return shape;
                }
            }
        }
        return null;
    }

    private boolean near(List<List<Box>> parts, int i, int j) {
        if (shapeOf(parts, i) == shapeOf(parts, j)) {
            return false;
        }
        for (Box a : parts.get(i)) {
            for (Box b : parts.get(j)) {
                long dx = a.x2 < b.x ? b.x - a.x2 : b.x2 < a.x ? a.x - b.x2 : 0;
                long dy = a.y2 < b.y ? b.y - a.y2 : b.y2 < a.y ? a.y - b.y2 : 0;
                if (dx * dx + dy * dy < (long) distance * distance) {
                    return true;
                }
            }
        }
        return false;
    }

    private boolean[][] nearTable() {
        List<List<Box>> parts = parts();
        boolean[][] table = new boolean[parts.size()][parts.size()];
        for (int i = 0; i < table.length; i++) {
            for (int j = 0; j < table.length; j++) {
                table[i][j] = near(parts, i, j);
            }
        }
        return table;
    }

    private List<int[]> pairs() {
        boolean[][] table = nearTable();
        List<int[]> pairs = new ArrayList<>();
        for (int i = 0; i < table.length; i++) {
            for (int j = i + 1; j < table.length; j++) {
                if (table[i][j]) {
                    pairs.add(new int[] {i, j});
                }
            }
        }
        return pairs;
    }

    private int usedBefore(int end, List<List<Box>> parts) {
        int used = 0;
        for (int i = 1; i < end; i++) {
            if (shapeOf(parts, i) == shapeOf(parts, i - 1) && colours[i] != colours[i - 1]) {
                used++;
            }
        }
        return used;
    }

    private int from(int part, List<List<Box>> parts, int count, int most, int limit) {
        if (part == parts.size()) {
            return 0;
        }
        for (int c = 0; c < count; c++) {
            if (steps + 1 > most) {
                return 2;
            }
            steps++;
            colours[part] = c;
            if (fits(part, parts, limit)) {
                int answer = from(part + 1, parts, count, most, limit);
                if (answer != 1) {
                    return answer;
                }
            }
        }
        return 1;
    }

    private boolean fits(int part, List<List<Box>> parts, int limit) {
        for (int i = 0; i < part; i++) {
            if (colours[i] == colours[part] && near(parts, i, part)) {
                return false;
            }
        }
        for (Box b : parts.get(part)) {
            if (b.pre != -1 && b.pre != colours[part]) {
                return false;
            }
        }
        return usedBefore(part + 1, parts) <= limit;
    }

    /** All rows of 3, then of 5, .. parts, in their order, until one is a ring. */
    private List<Integer> theRing() {
        boolean[][] table = nearTable();
        List<Integer> row = new ArrayList<>();
        if (!twoSided(table)) {
            for (int length = 3; length <= table.length; length += 2) {
                if (longer(row, length, table)) {
                    return row;
                }
            }
        }
        return row;
    }

    private boolean longer(List<Integer> row, int length, boolean[][] table) {
        int size = row.size();
        if (size == length) {
            return table[row.get(size - 1)][row.get(0)];
        }
        for (int next = 0; next < table.length; next++) {
            if (!row.contains(next) && (size == 0 || table[row.get(size - 1)][next])) {
                row.add(next);
                if (longer(row, length, table)) {
                    return true;
                }
                row.remove(size);
            }
        }
        return false;
    }

    /** Without odd rings: spares the model from looking through all rows. */
    private static boolean twoSided(boolean[][] table) {
        int[] side = new int[table.length];
        for (int i = 0; i < side.length; i++) {
            if (side[i] == 0 && !spread(i, 1, side, table)) {
                return false;
            }
        }
        return true;
    }

    private static boolean spread(int part, int as, int[] side, boolean[][] table) {
        if (side[part] != 0) {
            return side[part] == as;
        }
        side[part] = as;
        for (int other = 0; other < side.length; other++) {
            if (table[part][other] && !spread(other, -as, side, table)) {
                return false;
            }
        }
        return true;
    }
}
