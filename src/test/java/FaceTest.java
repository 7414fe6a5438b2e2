import java.lang.reflect.Constructor;
import java.lang.reflect.Field;
import java.lang.reflect.Method;
import java.lang.reflect.Modifier;
import java.util.Set;
import java.util.TreeSet;

/** The public face has what the document names and nothing else. */
public final class FaceTest {
    private static final Set<String> DUE = new TreeSet<>(Set.of(
            "int NONE", "MaskParts()", "int distance(int)", "int shape()",
            "int box(int,int,int,int,int)", "boolean stitch(int,int,boolean)", "int pre(int,int,int)",
            "int part(int,int)", "int pair(int,int)", "int run(int,int)", "int colour(int,int)",
            "int used()", "int steps()", "long area(int)", "int ring()", "int ringAt(int)",
            "int groups()", "int told(int)"));

    public static void main(String[] args) {
        Check check = new Check();
        Set<String> got = new TreeSet<>();
        for (Field f : MaskParts.class.getDeclaredFields()) {
            if (isSeen(f.getModifiers(), f.isSynthetic())) {
                got.add(f.getType() + " " + f.getName());
            }
        }
        for (Constructor<?> c : MaskParts.class.getDeclaredConstructors()) {
            if (isSeen(c.getModifiers(), c.isSynthetic())) {
                got.add(c.getName() + types(c.getParameterTypes()));
            }
        }
        for (Method m : MaskParts.class.getDeclaredMethods()) {
            if (isSeen(m.getModifiers(), m.isSynthetic())) {
                got.add(m.getReturnType() + " " + m.getName() + types(m.getParameterTypes()));
            }
        }
        if (!got.equals(DUE)) {
            check.say("the face is " + got + ", due is " + DUE);
        }
        check.same("the class is final", 1, Modifier.isFinal(MaskParts.class.getModifiers()) ? 1 : 0);
        check.end();
    }

    private static boolean isSeen(int modifiers, boolean isMadeByTheCompiler) {
        return !Modifier.isPrivate(modifiers) && !isMadeByTheCompiler;
    }

    private static String types(Class<?>[] types) {
        StringBuilder out = new StringBuilder("(");
        for (Class<?> type : types) {
            out.append(out.length() > 1 ? "," : "").append(type.getName());
        }
        return out.append(")").toString();
    }
}
