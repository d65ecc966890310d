import java.lang.reflect.Field;
import java.lang.reflect.Method;
import java.lang.reflect.Modifier;
import java.util.Arrays;
import java.util.Set;
import java.util.TreeSet;
import java.util.stream.Collectors;

/** The document's public face, and rule 1 of LANGUAGE.md: that, and no more than that, can be seen. */
public final class FaceTest {
    private static final Set<String> FACE = new TreeSet<>(Arrays.asList(
        "void name(long, int) IllegalArgumentException",
        "int add(int) IllegalStateException",
        "int remove() IllegalStateException",
        "int replace(int) IllegalStateException",
        "int rename(int) IllegalStateException NoSuchElementException",
        "int find() IllegalStateException NoSuchElementException",
        "int serial() IllegalStateException",
        "int next(int) IllegalStateException",
        "int listed(int, int) IllegalStateException IllegalArgumentException",
        "int rank() IllegalStateException",
        "long found() IllegalStateException",
        "int count() IllegalStateException",
        "int free() IllegalStateException",
        "int writes()",
        "void failAfter(int) IllegalArgumentException",
        "boolean start()",
        "boolean isOn()"));

    private FaceTest() {
    }

    public static void main(String[] args) {
        Class<?> type = ListedNames.class;
        dueSame("class", Modifier.toString(type.getModifiers()), "public final");
        dueSame("constructors", Arrays.toString(type.getDeclaredConstructors()), "[public ListedNames()]");
        methods(type);
        fields(type);
        for (Class<?> inside : type.getDeclaredClasses()) {
            int modifiers = inside.getModifiers();
            boolean hidden = !Modifier.isPublic(modifiers) && !Modifier.isProtected(modifiers);
            Checks.due(inside + " is static and hidden", hidden && Modifier.isStatic(modifiers), true);
        }
        Checks.due("NONE", ListedNames.NONE, -1);
        Checks.due("FULL", ListedNames.FULL, -2);
        Checks.due("CUT", ListedNames.CUT, -3);
        Checks.end();
    }

    private static void methods(Class<?> type) {
        Set<String> seen = new TreeSet<>();
        Set<String> publicNames = new TreeSet<>();
        Set<String> privateNames = new TreeSet<>();
        for (Method method : type.getDeclaredMethods()) {
            if (Modifier.isPrivate(method.getModifiers()) || method.isSynthetic()) {
                privateNames.add(method.getName());
            } else {
                publicNames.add(method.getName());
                seen.add(told(method));
                Checks.due(method + " is public", method.getModifiers(), Modifier.PUBLIC);
            }
        }
        dueSame("methods", seen.toString(), FACE.toString());
        for (Class<?> inside : type.getDeclaredClasses()) {
            for (Method method : inside.getDeclaredMethods()) {
                privateNames.add(method.getName());
            }
        }
        privateNames.retainAll(publicNames);
        dueSame("private methods with a public one's name", privateNames.toString(), "[]");
    }

    private static void fields(Class<?> type) {
        Set<String> seen = new TreeSet<>();
        for (Field field : type.getDeclaredFields()) {
            if (!Modifier.isPrivate(field.getModifiers())) {
                seen.add(field.toString());
            }
        }
        dueSame("fields", seen.toString(), "[public static final int ListedNames.CUT, "
                + "public static final int ListedNames.FULL, public static final int ListedNames.NONE]");
    }

    private static String told(Method method) {
        String parameters = Arrays.stream(method.getParameterTypes()).map(Class::getName)
                .collect(Collectors.joining(", "));
        String thrown = Arrays.stream(method.getExceptionTypes()).map(each -> " " + each.getSimpleName())
                .collect(Collectors.joining());
        return method.getReturnType() + " " + method.getName() + "(" + parameters + ")" + thrown;
    }

    private static void dueSame(String what, String got, String want) {
        if (!got.equals(want)) {
            Checks.tell(what, got, want);
        }
    }
}
