import java.lang.reflect.Constructor;
import java.lang.reflect.Executable;
import java.lang.reflect.Field;
import java.lang.reflect.Method;
import java.lang.reflect.Modifier;
import java.util.HashSet;
import java.util.Set;
import java.util.TreeSet;

/** The public face has what the document names, word for word, and nothing else that others can see. */
public final class FaceTest {
    private static final String INDEX = "IndexOutOfBoundsException";
    private static final String ARGUMENT = "IllegalArgumentException";
    private static final String STATE = "IllegalStateException";

    private static final Set<String> DUE = new TreeSet<>(Set.of(
            "public static final int NONE",
            "public MaskParts()",
            "public int distance(int) throws " + ARGUMENT,
            "public int shape() throws " + STATE,
            "public int box(int, int, int, int, int) throws " + INDEX + ", " + ARGUMENT + ", " + STATE,
            "public boolean stitch(int, int, boolean) throws " + INDEX,
            "public int pre(int, int, int) throws " + INDEX + ", " + ARGUMENT,
            "public int part(int, int) throws " + INDEX,
            "public int pair(int, int) throws " + INDEX + ", " + ARGUMENT,
            "public int run(int, int) throws " + ARGUMENT,
            "public int colour(int, int) throws " + INDEX,
            "public int used()",
            "public int steps()",
            "public long area(int) throws " + ARGUMENT,
            "public int ring()",
            "public int ringAt(int) throws " + INDEX,
            "public int groups()",
            "public int told(int) throws " + ARGUMENT));

    private static final Check CHECK = new Check();

    public static void main(String[] args) {
        membersAreThoseOfTheDocument();
        classIsPublicAndFinal();
        noneIsMinusOne();
        classesInsideAreHidden();
        noPrivateMethodBearsAPublicName();
        CHECK.end();
    }

    private static void membersAreThoseOfTheDocument() {
        Set<String> got = new TreeSet<>();
        for (Field f : MaskParts.class.getDeclaredFields()) {
            if (isSeen(f.getModifiers(), f.isSynthetic())) {
                got.add(Modifier.toString(f.getModifiers()) + " " + f.getType() + " " + f.getName());
            }
        }
        for (Constructor<?> c : MaskParts.class.getDeclaredConstructors()) {
            if (isSeen(c.getModifiers(), c.isSynthetic())) {
                got.add(Modifier.toString(c.getModifiers()) + " " + face(c));
            }
        }
        for (Method m : MaskParts.class.getDeclaredMethods()) {
            if (isSeen(m.getModifiers(), m.isSynthetic())) {
                got.add(Modifier.toString(m.getModifiers()) + " " + m.getReturnType() + " " + face(m));
            }
        }
        for (String due : DUE) {
            if (!got.contains(due)) {
                CHECK.say("the face lacks: " + due);
            }
        }
        for (String member : got) {
            if (!DUE.contains(member)) {
                CHECK.say("the document does not name: " + member);
            }
        }
    }

    private static void classIsPublicAndFinal() {
        CHECK.same("the class", "public final", Modifier.toString(MaskParts.class.getModifiers()));
        CHECK.same("the class's package", "", MaskParts.class.getPackageName());
        CHECK.same("the class above", "Object", MaskParts.class.getSuperclass().getSimpleName());
        CHECK.same("how many interfaces it has", 0, MaskParts.class.getInterfaces().length);
    }

    private static void noneIsMinusOne() {
        CHECK.same("NONE", -1, MaskParts.NONE);
    }

    /** LANGUAGE.md, rule 1: the classes inside "are private or package-visible and static". */
    private static void classesInsideAreHidden() {
        for (Class<?> inside : MaskParts.class.getDeclaredClasses()) {
            int modifiers = inside.getModifiers();
            boolean isHidden = !Modifier.isPublic(modifiers) && !Modifier.isProtected(modifiers);
            CHECK.same(inside.getName() + " is hidden", true, isHidden);
            CHECK.same(inside.getName() + " is static", true, Modifier.isStatic(modifiers));
        }
    }

    /** LANGUAGE.md, rule 1: "No private method bears the name of a public one". */
    private static void noPrivateMethodBearsAPublicName() {
        Set<String> open = new HashSet<>();
        for (Method m : MaskParts.class.getMethods()) {
            open.add(m.getName());
        }
        for (Method m : MaskParts.class.getDeclaredMethods()) {
            boolean isTaken = Modifier.isPrivate(m.getModifiers()) && open.contains(m.getName());
            CHECK.same("private " + m.getName() + " bears a public name", false, isTaken);
        }
    }

    private static boolean isSeen(int modifiers, boolean isMadeByTheCompiler) {
        return !Modifier.isPrivate(modifiers) && !isMadeByTheCompiler;
    }

    private static String face(Executable call) {
        String thrown = list(call.getExceptionTypes());
        return call.getName() + "(" + list(call.getParameterTypes()) + ")"
                + (thrown.isEmpty() ? "" : " throws " + thrown);
    }

    private static String list(Class<?>[] types) {
        StringBuilder out = new StringBuilder();
        for (Class<?> type : types) {
            out.append(out.length() > 0 ? ", " : "").append(type.getSimpleName());
        }
        return out.toString();
    }
}
