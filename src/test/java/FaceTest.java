import java.lang.reflect.Executable;
import java.lang.reflect.Field;
import java.lang.reflect.Method;
import java.lang.reflect.Modifier;
import java.util.Arrays;
import java.util.TreeSet;

/** The class has the face of the document, and nothing else of it can be seen from outside. */
public final class FaceTest {
    private static final String[] FACE = {
        "LabelLearner()",
        "boolean type(long, int)",
        "boolean cut(int)",
        "int load() throws IllegalArgumentException",
        "int speak() throws IllegalArgumentException",
        "int sentences()",
        "int words(int) throws IndexOutOfBoundsException",
        "int given(int, int) throws IndexOutOfBoundsException",
        "int feature(int, int, int) throws IndexOutOfBoundsException",
        "int learn(int) throws IllegalArgumentException, IllegalStateException",
        "int mistakes()",
        "int passes()",
        "long weight(int, int, boolean) throws IndexOutOfBoundsException",
        "long decode(int, boolean, boolean) throws IndexOutOfBoundsException",
        "int label(int) throws IndexOutOfBoundsException",
        "long score(int, int, boolean) throws IndexOutOfBoundsException",
        "int errors(boolean)",
    };

    public static void main(String[] args) {
        Check check = new Check();
        Class<?> face = LabelLearner.class;
        check.same("modifiers", face.getModifiers(), Modifier.PUBLIC | Modifier.FINAL);
        TreeSet<String> seen = new TreeSet<>();
        for (Executable made : face.getDeclaredConstructors()) {
            addIfSeen(seen, made, "LabelLearner");
        }
        for (Method method : face.getDeclaredMethods()) {
            addIfSeen(seen, method, method.getReturnType() + " " + method.getName());
        }
        check.same("face", seen, new TreeSet<>(Arrays.asList(FACE)));
        for (Field field : face.getDeclaredFields()) {
            boolean constant = field.getName().equals("NONE");
            int due = constant ? Modifier.PUBLIC | Modifier.STATIC | Modifier.FINAL : Modifier.PRIVATE;
            int looked = constant ? -1 : Modifier.PUBLIC | Modifier.PROTECTED | Modifier.PRIVATE;
            check.same("modifiers of " + field.getName(), field.getModifiers() & looked, due);
        }
        for (Class<?> inside : face.getDeclaredClasses()) {
            check.same("static " + inside, Modifier.isStatic(inside.getModifiers()), true);
            check.same("public " + inside, Modifier.isPublic(inside.getModifiers()), false);
        }
        check.end();
    }

    private static void addIfSeen(TreeSet<String> seen, Executable member, String head) {
        if (Modifier.isPrivate(member.getModifiers()) || member.isSynthetic()) {
            return;
        }
        String line = head + "(" + names(member.getParameterTypes()) + ")";
        Class<?>[] thrown = member.getExceptionTypes();
        seen.add((Modifier.isPublic(member.getModifiers()) ? "" : "not public: ") + line
            + (thrown.length == 0 ? "" : " throws " + names(thrown)));
    }

    private static String names(Class<?>[] types) {
        StringBuilder all = new StringBuilder();
        for (Class<?> type : types) {
            all.append(all.length() == 0 ? "" : ", ").append(type.getSimpleName());
        }
        return all.toString();
    }
}
