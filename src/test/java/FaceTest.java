import java.io.IOException;
import java.lang.reflect.Constructor;
import java.lang.reflect.Field;
import java.lang.reflect.Method;
import java.lang.reflect.Modifier;
import java.nio.file.Files;
import java.nio.file.Path;
import java.util.Arrays;
import java.util.Set;
import java.util.TreeSet;
import java.util.regex.Matcher;
import java.util.regex.Pattern;

/** The document's public face, and those rules of LANGUAGE.md that can be seen from outside. */
public final class FaceTest {
    private static final String[] FACE = {
        "void clear()",
        "int map(boolean, boolean)",
        "int put(int, long, long, long) throws ArithmeticException",
        "int drop(int, long)",
        "int union(int, int)",
        "int both(int, int)",
        "int less(int, int)",
        "int part(int, long, int)",
        "int kept(int, long, long)",
        "boolean has(int, long)",
        "long get(int, long) throws IllegalArgumentException, NoSuchElementException, ArithmeticException",
        "long key(int, int) throws IllegalArgumentException, IndexOutOfBoundsException",
        "int rank(int, long)",
        "long fold(int, long, long) throws IllegalArgumentException, ArithmeticException",
        "int row()",
        "int add(int, boolean, long)",
        "int join(int, int)",
        "int cut(int, int, int)",
        "int replace(int, int, long)",
        "int turned(int)",
        "long at(int, int) throws IllegalArgumentException, IndexOutOfBoundsException",
        "int find(int, int, long)",
        "int heap()",
        "int push(int, long)",
        "int meld(int, int)",
        "int pop(int)",
        "long least(int) throws IllegalArgumentException, NoSuchElementException",
        "int size(int)",
        "int same(int, int)",
        "boolean sound(int)",
        "int worked()",
        "int told(int)"};
    private static final String[] FORBIDDEN = {"\\btry\\b", "\\bcatch\\b", "\\bfinally\\b", "\\bsynchronized\\b",
        "\\bassert\\b", "->", "::", "\\bSystem\\.(?!arraycopy)", "\\bThread\\b", "\\bvar\\b", "Exact\\(", "\\bpackage\\b",
        "static\\s*\\{", "\\bdouble\\b", "\\bfloat\\b", "\\.(equals|hashCode|toString)\\("};
    private static final Due due = new Due();

    public static void main(String[] args) throws IOException {
        members();
        classesInside();
        source();
        due.end();
    }

    private static String names(Class<?>[] types) {
        return String.join(", ", Arrays.stream(types).map(Class::getSimpleName).toList());
    }

    private static String told(Method method) {
        String thrown = names(method.getExceptionTypes());
        return method.getReturnType().getSimpleName() + " " + method.getName() + "("
                + names(method.getParameterTypes()) + ")" + (thrown.isEmpty() ? "" : " throws " + thrown);
    }

    private static void members() {
        Class<?> face = OrderedMaps.class;
        due.is("public and final", Modifier.isPublic(face.getModifiers()) && Modifier.isFinal(face.getModifiers()), true);
        Set<String> found = new TreeSet<>();
        Set<String> open = new TreeSet<>();
        Set<String> hidden = new TreeSet<>();
        for (Method method : face.getDeclaredMethods()) {
            if (Modifier.isPrivate(method.getModifiers())) {
                hidden.add(method.getName());
            } else {
                found.add(told(method));
                open.add(method.getName());
                due.is(method + " is public and the object's", method.getModifiers(), Modifier.PUBLIC);
            }
        }
        Set<String> wanted = new TreeSet<>(Arrays.asList(FACE));
        due.is("the face " + found + " is " + wanted, found.equals(wanted), true);
        hidden.retainAll(open);
        due.is("private methods with public names " + hidden, hidden.size(), 0);
        for (Field field : face.getDeclaredFields()) {
            boolean isPrivate = Modifier.isPrivate(field.getModifiers());
            due.is(field + " is private, or NONE", isPrivate || field.getName().equals("NONE"), true);
            due.is(field + " is final, if static",
                    !Modifier.isStatic(field.getModifiers()) || Modifier.isFinal(field.getModifiers()), true);
        }
        Constructor<?>[] makers = face.getDeclaredConstructors();
        due.is("constructors", makers.length, 1);
        due.is("it is public", makers[0].getModifiers(), Modifier.PUBLIC);
        due.is("it takes nothing", makers[0].getParameterCount(), 0);
    }

    private static void classesInside() {
        Class<?>[] inside = OrderedMaps.class.getDeclaredClasses();
        due.is("some twelve classes at most", inside.length <= 12, true);
        for (Class<?> each : inside) {
            due.is(each + " is static", Modifier.isStatic(each.getModifiers()), true);
            due.is(each + " is not public", Modifier.isPublic(each.getModifiers()), false);
            due.is(each + " has few fields", each.getDeclaredFields().length <= 20, true);
        }
    }

    /** .ci/run starts each test in the project's folder. */
    private static void source() throws IOException {
        String text = Files.readString(Path.of("src/main/java/OrderedMaps.java"));
        due.is("signs 1 to 127", text.chars().allMatch(sign -> sign > 0 && sign < 128), true);
        String code = text.replaceAll("(?s)/\\*.*?\\*/", "").replaceAll("//[^\n]*", "");
        for (String pattern : FORBIDDEN) {
            Matcher found = Pattern.compile(pattern).matcher(code);
            due.is("the source has " + pattern, found.find(), false);
        }
        Set<String> imports = new TreeSet<>();
        Matcher line = Pattern.compile("import ([^;]*);").matcher(code);
        while (line.find()) {
            imports.add(line.group(1));
        }
        imports.removeAll(Set.of("java.util.Arrays", "java.util.NoSuchElementException", "java.util.List",
                "java.util.ArrayList"));
        due.is("other imports " + imports, imports.size(), 0);
    }
}
