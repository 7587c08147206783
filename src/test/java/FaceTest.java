import java.lang.reflect.Constructor;
import java.lang.reflect.Field;
import java.lang.reflect.Method;
import java.lang.reflect.Modifier;
import java.util.Arrays;
import java.util.Set;
import java.util.TreeSet;

/** The document's public face, and rule 1 of LANGUAGE.md: these members and no other. */
public final class FaceTest {
    private static final Set<String> METHODS = new TreeSet<>(Arrays.asList(
            "int terminal(int, int)", "int listens(int, int, boolean)", "int hold(int, int, int, int)",
            "int got(int, int, int)", "int note(int, int, boolean)", "int vector(int, int)",
            "int bar(int, boolean, int, boolean)", "int block(int, int, int)",
            "int transfer(int, int, int, int, int, int, int, int)", "int close()", "boolean retries(int)",
            "boolean period(int)", "int run(int)", "boolean alter(int, long)", "boolean mute(int, int)",
            "int result(int, int)", "int told(int, int)", "int heard(int, int)", "long halves(boolean, int)",
            "int word(long)", "int count(int)"));

    public static void main(String[] args) {
        Check face = new Check("face");
        Set<String> open = new TreeSet<>();
        Set<String> openNames = new TreeSet<>();
        for (Method method : TwinLines.class.getDeclaredMethods()) {
            if (!Modifier.isPrivate(method.getModifiers()) && !method.isSynthetic()) {
                face.due("public " + method.getName(), Modifier.isPublic(method.getModifiers()), true);
                open.add(signature(method));
                openNames.add(method.getName());
            }
        }
        face.due("the methods " + open, open.equals(METHODS), true);
        for (Method method : TwinLines.class.getDeclaredMethods()) {
            if (Modifier.isPrivate(method.getModifiers())) {
                face.due("private " + method.getName(), openNames.contains(method.getName()), false);
            }
        }
        for (Field field : TwinLines.class.getDeclaredFields()) {
            boolean isBad = field.getName().equals("BAD");
            face.due("field " + field.getName(), Modifier.isPrivate(field.getModifiers()), !isBad);
        }
        for (Constructor<?> constructor : TwinLines.class.getDeclaredConstructors()) {
            face.due("constructor", Modifier.isPublic(constructor.getModifiers())
                    && constructor.getParameterCount() == 0, true);
        }
        face.due("final", Modifier.isFinal(TwinLines.class.getModifiers()), true);
        face.due("BAD", TwinLines.BAD, -1);
        Check.end(face);
    }

    private static String signature(Method method) {
        StringBuilder text = new StringBuilder(method.getReturnType().getName());
        text.append(' ').append(method.getName()).append('(');
        Class<?>[] types = method.getParameterTypes();
        for (int i = 0; i < types.length; i++) {
            text.append(i == 0 ? "" : ", ").append(types[i].getName());
        }
        return text.append(')').toString();
    }
}
