import java.io.IOException;
import java.nio.file.Files;
import java.nio.file.Path;
import java.util.ArrayList;
import java.util.List;
import java.util.function.Supplier;

/** What README.md shows: each call of its examples, in their order, answers what stands behind it there. */
public final class ReadmeTest {
    private static final Check CHECK = new Check();
    private static final List<String> LINES = new ArrayList<>();

    public static void main(String[] args) throws IOException {
        readExamples(Path.of("README.md"));
        colouring();
        oddRing();
        for (String line : LINES) {
            CHECK.say("README: this line is not tested: " + line);
        }
        CHECK.end();
    }

    private static void readExamples(Path readme) throws IOException {
        boolean isExample = false;
        for (String line : Files.readAllLines(readme)) {
            if (line.startsWith("```")) {
                isExample = line.equals("```java");
            } else if (isExample && line.contains("//")) {
                LINES.add(line);
            }
        }
    }

    private static void colouring() {
        MaskParts x = new MaskParts();
        line("int a = x.shape();", x::shape);
        line("int b = x.shape();", x::shape);
        line("int c = x.shape();", x::shape);
        int a = 0;
        int b = 1;
        int c = 2;
        line("x.distance(3);", () -> x.distance(3));
        line("x.box(a, 0, 0, 1, 1);", () -> x.box(a, 0, 0, 1, 1));
        line("x.box(a, 100, 0, 102, 1);", () -> x.box(a, 100, 0, 102, 1));
        line("x.box(b, 2, 0, 3, 2);", () -> x.box(b, 2, 0, 3, 2));
        line("x.box(c, 103, 0, 104, 4);", () -> x.box(c, 103, 0, 104, 4));
        line("x.stitch(a, 0, true);", () -> x.stitch(a, 0, true));
        line("x.pre(b, 0, 1);", () -> x.pre(b, 0, 1));
        line("x.pre(c, 0, 0);", () -> x.pre(c, 0, 0));
        line("x.told(2);", () -> x.told(2));
        line("x.part(a, 1);", () -> x.part(a, 1));
        line("x.told(3);", () -> x.told(3));
        line("x.pair(1, 0);", () -> x.pair(1, 0));
        line("x.pair(1, 1);", () -> x.pair(1, 1));
        line("x.groups();", x::groups);
        line("x.run(2, 20000);", () -> x.run(2, 20000));
        line("x.colour(a, 0);", () -> x.colour(a, 0));
        line("x.colour(a, 1);", () -> x.colour(a, 1));
        line("x.used();", x::used);
        line("x.steps();", x::steps);
        line("x.area(1);", () -> x.area(1));
        line("x.stitch(a, 0, false);", () -> x.stitch(a, 0, false));
        line("x.colour(a, 0);", () -> x.colour(a, 0));
        line("x.run(2, 20000);", () -> x.run(2, 20000));
    }

    private static void oddRing() {
        MaskParts y = Scenes.dots(2, 0, 0, 2, 0, 1, 2);
        line("y.ring();", y::ring);
        line("y.ringAt(2);", () -> y.ringAt(2));
        line("y.ringAt(3);", () -> y.ringAt(3));
        line("y.run(2, 20000);", () -> y.run(2, 20000));
        line("y.run(3, 20000);", () -> y.run(3, 20000));
        line("y.run(3, 5);", () -> y.run(3, 5));
        line("y.used();", y::used);
    }

    /** README's next line is this call; its remark begins with the answer. */
    private static void line(String call, Supplier<Object> answer) {
        String got = answerOf(answer);
        String line = LINES.isEmpty() ? "" : LINES.remove(0);
        CHECK.same("README: a line", call, line.split("//")[0].strip());
        if (line.contains("//")) {
            String due = line.substring(line.indexOf("//") + 2).strip().split("[,: ]")[0];
            CHECK.same("README: " + call, due, got);
        }
    }

    private static String answerOf(Supplier<Object> answer) {
        try {
            return answer.get().toString();
        } catch (RuntimeException e) {
            return e.getClass().getSimpleName();
        }
    }
}
