import java.lang.reflect.Constructor;
import java.lang.reflect.Field;
import java.lang.reflect.Method;
import java.lang.reflect.Modifier;
import java.util.ArrayList;
import java.util.Arrays;
import java.util.Collections;
import java.util.List;

/** The public face is the document's, with what each call throws, and nothing else can be seen. */
public final class FaceTest {
    private static final String[] FACE = {
        "int grow() throws IllegalStateException",
        "void shrink() throws IllegalStateException",
        "boolean join(int, int) throws IndexOutOfBoundsException, IllegalArgumentException",
        "boolean part(int, int) throws IndexOutOfBoundsException, IllegalArgumentException",
        "boolean adjacent(int, int) throws IndexOutOfBoundsException",
        "int vertices()",
        "int edges()",
        "int leader(int) throws IndexOutOfBoundsException",
        "boolean isLine()",
        "int ends() throws IllegalStateException",
        "int low(int) throws IndexOutOfBoundsException, IllegalStateException",
        "int high(int) throws IndexOutOfBoundsException, IllegalStateException",
        "int spoiler() throws IllegalStateException",
        "int apart()",
        "int close()",
        "int loose() throws IllegalStateException",
        "int barrier() throws IllegalStateException",
    };

    public static void main(String[] args) {
        Checks.due("public and final", Modifier.PUBLIC | Modifier.FINAL, () -> PairedEnds.class.getModifiers());
        List<String> want = new ArrayList<>(Arrays.asList(FACE));
        Collections.sort(want);
        Checks.due("the methods", want, FaceTest::seenMethods);
        Checks.due("the constructors", "[PairedEnds() public]", FaceTest::seenConstructors);
        Checks.due("the fields", "[]", FaceTest::seenFields);
        Checks.due("private methods with a public one's name", "[]", FaceTest::hiddenTwice);
        Checks.finish();
    }

    private static List<String> seenMethods() {
        List<String> seen = new ArrayList<>();
        for (Method method : PairedEnds.class.getDeclaredMethods()) {
            if (!Modifier.isPrivate(method.getModifiers())) {
                seen.add(written(method));
            }
        }
        Collections.sort(seen);
        return seen;
    }

    private static String written(Method method) {
        StringBuilder text = new StringBuilder();
        text.append(Modifier.isPublic(method.getModifiers()) ? "" : "not public: ");
        text.append(Modifier.isStatic(method.getModifiers()) ? "static " : "");
        text.append(method.getReturnType().getSimpleName()).append(' ').append(method.getName());
        text.append('(').append(names(method.getParameterTypes())).append(')');
        String thrown = names(method.getExceptionTypes());
        return text.append(thrown.isEmpty() ? "" : " throws " + thrown).toString();
    }

    private static String names(Class<?>[] types) {
        List<String> names = new ArrayList<>();
        for (Class<?> type : types) {
            names.add(type.getSimpleName());
        }
        return String.join(", ", names);
    }

    private static List<String> seenConstructors() {
        List<String> seen = new ArrayList<>();
        for (Constructor<?> made : PairedEnds.class.getDeclaredConstructors()) {
            seen.add("PairedEnds(" + names(made.getParameterTypes()) + ") " + Modifier.toString(made.getModifiers()));
        }
        return seen;
    }

    private static List<String> seenFields() {
        List<String> seen = new ArrayList<>();
        for (Field field : PairedEnds.class.getDeclaredFields()) {
            if (!Modifier.isPrivate(field.getModifiers())) {
                seen.add(field.getName());
            }
        }
        return seen;
    }

    private static List<String> hiddenTwice() {
        List<String> shown = new ArrayList<>();
        List<String> twice = new ArrayList<>();
        for (Method method : PairedEnds.class.getMethods()) {
            shown.add(method.getName());
        }
        for (Method method : PairedEnds.class.getDeclaredMethods()) {
            if (Modifier.isPrivate(method.getModifiers()) && shown.contains(method.getName())) {
                twice.add(method.getName());
            }
        }
        return twice;
    }
}
