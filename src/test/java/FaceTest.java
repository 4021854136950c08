import java.lang.reflect.Field;
import java.lang.reflect.Method;
import java.lang.reflect.Modifier;
import java.util.Arrays;
import java.util.Set;
import java.util.TreeSet;

/** The class shows what the document's public face has, and nothing else (LANGUAGE.md, rule 1). */
public final class FaceTest {
    private static final Set<String> DUE = Set.of(
            "int feed(int, int, int, int, int) throws IllegalStateException",
            "int end(int) throws IllegalArgumentException",
            "void restart(int) throws NoSuchElementException",
            "long more(int) throws NoSuchElementException",
            "int peek(int) throws NoSuchElementException",
            "int key()",
            "int keep()",
            "int hmac(int) throws NoSuchElementException",
            "int expand(int, int) throws NoSuchElementException, IllegalArgumentException",
            "int expandLabel(int, int, int) throws NoSuchElementException, IllegalArgumentException",
            "int result(int) throws IndexOutOfBoundsException",
            "int count(int)");

    public static void main(String[] args) {
        int modifiers = DigestBox.class.getModifiers();
        Check.same("the class", Modifier.toString(modifiers), "public final");
        Check.same("the methods", visibleMethods().toString(), new TreeSet<>(DUE).toString());
        Check.same("the constructors", Arrays.toString(DigestBox.class.getDeclaredConstructors()),
                "[public DigestBox()]");
        for (Field field : DigestBox.class.getDeclaredFields()) {
            Check.same("field " + field.getName() + " is private", String.valueOf(isPrivate(field.getModifiers())),
                    "true");
        }
        for (Class<?> inside : DigestBox.class.getDeclaredClasses()) {
            int of = inside.getModifiers();
            boolean fits = Modifier.isStatic(of) && !Modifier.isPublic(of) && !Modifier.isProtected(of);
            Check.same("class " + inside.getSimpleName() + " fits rule 1", String.valueOf(fits), "true");
        }
        Check.end();
    }

    private static Set<String> visibleMethods() {
        Set<String> found = new TreeSet<>();
        for (Method method : DigestBox.class.getDeclaredMethods()) {
            if (!isPrivate(method.getModifiers())) {
                found.add(face(method));
            }
        }
        return found;
    }

    private static boolean isPrivate(int modifiers) {
        return Modifier.isPrivate(modifiers);
    }

    private static String face(Method method) {
        String thrown = names(method.getExceptionTypes());
        return method.getReturnType().getSimpleName() + " " + method.getName() + "("
                + names(method.getParameterTypes()) + ")" + (thrown.isEmpty() ? "" : " throws " + thrown);
    }

    private static String names(Class<?>[] types) {
        StringBuilder all = new StringBuilder();
        for (Class<?> type : types) {
            all.append(all.length() == 0 ? "" : ", ").append(type.getSimpleName());
        }
        return all.toString();
    }
}
