import java.io.IOException;
import java.lang.reflect.Constructor;
import java.lang.reflect.Field;
import java.lang.reflect.Method;
import java.lang.reflect.Modifier;
import java.nio.file.Files;
import java.nio.file.Path;
import java.util.ArrayList;
import java.util.Arrays;
import java.util.List;
import java.util.Set;
import java.util.TreeSet;
import java.util.regex.Matcher;
import java.util.regex.Pattern;

/** The document's public face, and those rules of LANGUAGE.md that can be seen from outside. */
public final class FaceTest {
    private static final Path DOCUMENT = Path.of("../shared/DOC.md");
    private static final Path SOURCE = Path.of("src/main/java/OrderedMaps.java");
    private static final String[] FORBIDDEN = {"\\btry\\b", "\\bcatch\\b", "\\bfinally\\b", "\\bsynchronized\\b",
        "\\bassert\\b", "->", "::", "\\bSystem\\.(?!arraycopy)", "\\bThread\\b", "\\bvar\\b", "Exact\\(",
        "\\bpackage\\b",
        "static\\s*\\{", "\\bdouble\\b", "\\bfloat\\b", "\\.(equals|hashCode|toString)\\("};
    private static final Due due = new Due();

    public static void main(String[] args) throws IOException {
        faceStandsInTheSource();
        none();
        members();
        classesInside();
        headings();
        methodsAreShort();
        source();
        due.end();
    }

    private static String names(Class<?>[] types) {
        return String.join(", ", Arrays.stream(types).map(Class::getSimpleName).toList());
    }

    private static String told(Method method) {
        String thrown = names(method.getExceptionTypes());
        return method.getReturnType().getSimpleName() + " " + method.getName() + "("
                + names(method.getParameterTypes()) + ")" + (thrown.isEmpty() ? "" : " throws " + thrown);
    }

    /** The lines of the document's face between the class's own first and last one. */
    private static List<String> face() throws IOException {
        Matcher found = Pattern.compile("(?s)```java\n(.*?)```").matcher(Files.readString(DOCUMENT));
        List<String> lines = new ArrayList<>();
        if (found.find()) {
            for (String line : found.group(1).split("\n")) {
                lines.add(line.strip());
            }
        }
        due.is("the face has its 36 lines", lines.size(), 36);
        due.is("its first is the class", lines.remove(0).equals("public final class OrderedMaps {"), true);
        due.is("its last is a bracket", lines.remove(lines.size() - 1).equals("}"), true);
        return lines;
    }

    /** Word for word, so that the parameters have the document's names and the calls its order. */
    private static void faceStandsInTheSource() throws IOException {
        String text = Files.readString(SOURCE).replaceAll("\\s+", " ");
        int from = text.indexOf("public final class OrderedMaps {");
        due.is("the class stands in the source", from >= 0, true);
        for (String line : face()) {
            String want = line.contains("(") ? line.substring(0, line.length() - 1) + " {" : line;
            int at = text.indexOf(want, Math.max(0, from));
            due.is("the source has, behind those ahead of it: " + want, at >= 0, true);
            from = Math.max(from, at);
        }
    }

    private static void none() {
        int modifiers = Modifier.PUBLIC | Modifier.STATIC | Modifier.FINAL;
        for (Field field : OrderedMaps.class.getFields()) {
            due.is(field + " is NONE", field.getName().equals("NONE"), true);
            due.is("it is a constant", field.getModifiers(), modifiers);
            due.is("it is an int", field.getType() == int.class, true);
        }
        due.is("the public fields", OrderedMaps.class.getFields().length, 1);
        due.is("NONE", OrderedMaps.NONE, -1);
    }

    /** A line of the face without its parameters' names, as told() writes a method. */
    private static Set<String> methodsOfTheFace() throws IOException {
        Set<String> methods = new TreeSet<>();
        for (String line : face()) {
            if (line.contains("(") && !line.startsWith("public OrderedMaps(")) {
                String told = line.replace("public ", "").replace(";", "");
                methods.add(told.replaceAll("(int|long|boolean) \\w+(?=[,)])", "$1"));
            }
        }
        return methods;
    }

    private static void members() throws IOException {
        Class<?> face = OrderedMaps.class;
        due.is("public", Modifier.isPublic(face.getModifiers()), true);
        due.is("final", Modifier.isFinal(face.getModifiers()), true);
        Set<String> found = new TreeSet<>();
        Set<String> open = new TreeSet<>();
        Set<String> hidden = new TreeSet<>();
        for (Method method : face.getDeclaredMethods()) {
            if (Modifier.isPrivate(method.getModifiers())) {
                hidden.add(method.getName());
            } else {
                found.add(told(method));
                open.add(method.getName());
                due.is(method + " is public and the object's", method.getModifiers(), Modifier.PUBLIC);
            }
        }
        Set<String> wanted = methodsOfTheFace();
        due.is("the methods of the face", wanted.size(), 32);
        due.is("the face " + found + " is " + wanted, found.equals(wanted), true);
        hidden.retainAll(open);
        due.is("private methods with public names " + hidden, hidden.size(), 0);
        for (Field field : face.getDeclaredFields()) {
            boolean isPrivate = Modifier.isPrivate(field.getModifiers());
            due.is(field + " is private, or NONE", isPrivate || field.getName().equals("NONE"), true);
            due.is(field + " is final, if static",
                    !Modifier.isStatic(field.getModifiers()) || Modifier.isFinal(field.getModifiers()), true);
        }
        Constructor<?>[] makers = face.getDeclaredConstructors();
        due.is("constructors", makers.length, 1);
        due.is("it is public", makers[0].getModifiers(), Modifier.PUBLIC);
        due.is("it takes nothing", makers[0].getParameterCount(), 0);
    }

    private static void classesInside() {
        Class<?>[] inside = OrderedMaps.class.getDeclaredClasses();
        due.is("some twelve classes at most", inside.length <= 12, true);
        for (Class<?> each : inside) {
            due.is(each + " is static", Modifier.isStatic(each.getModifiers()), true);
            due.is(each + " is not public", Modifier.isPublic(each.getModifiers()), false);
            due.is(each + " is not protected", Modifier.isProtected(each.getModifiers()), false);
            due.is(each + " has few fields", each.getDeclaredFields().length <= 20, true);
        }
    }

    /** "Ahead of the calls .. the interface says: ..": the source has that comment ahead of them. */
    private static void headings() throws IOException {
        String text = Files.readString(SOURCE);
        Matcher told = Pattern.compile("Ahead of the calls (.*) the interface says: (\\w+)\\.")
                .matcher(Files.readString(DOCUMENT));
        int calls = 0;
        while (told.find()) {
            for (String call : told.group(1).split(", ")) {
                int at = text.indexOf(" " + call.replace("`", "") + "(", text.indexOf("// " + told.group(2) + "\n"));
                int heading = at < 0 ? -1 : text.lastIndexOf("\n    // ", at);
                due.is(call + " stands under " + told.group(2),
                        heading >= 0 && text.startsWith(told.group(2) + "\n", heading + 8), true);
                calls++;
            }
        }
        due.is("calls under a heading", calls, 31);
    }

    /** A method is read from the line that opens it to the bracket that closes it at the same indent. */
    private static void methodsAreShort() throws IOException {
        List<String> lines = Files.readAllLines(SOURCE);
        Pattern opening = Pattern.compile(
                "( {4}| {8}| {12}(?=throws))(?=\\S)(?!if|for|while|else|\\}).*(\\)|Exception) \\{");
        int methods = 0;
        for (int i = 0; i < lines.size(); i++) {
            Matcher found = opening.matcher(lines.get(i));
            if (found.matches()) {
                String indent = found.group(1).length() == 12 ? "    " : found.group(1);
                int end = lines.subList(i, lines.size()).indexOf(indent + "}");
                due.is(lines.get(i).strip() + " is short", end > 0 && end < 60, true);
                methods++;
            }
        }
        due.is("the methods of the face are among them", methods > 33, true);
    }

    /** .ci/run starts each test in the project's folder. */
    private static void source() throws IOException {
        String text = Files.readString(SOURCE);
        due.is("signs 1 to 127", text.chars().allMatch(sign -> sign > 0 && sign < 128), true);
        String code = text.replaceAll("(?s)/\\*.*?\\*/", "").replaceAll("//[^\n]*", "");
        for (String pattern : FORBIDDEN) {
            Matcher found = Pattern.compile(pattern).matcher(code);
            due.is("the source has " + pattern, found.find(), false);
        }
        Set<String> imports = new TreeSet<>();
        Matcher line = Pattern.compile("import ([^;]*);").matcher(code);
        while (line.find()) {
            imports.add(line.group(1));
        }
        imports.removeAll(Set.of("java.util.Arrays", "java.util.NoSuchElementException", "java.util.List",
                "java.util.ArrayList"));
        due.is("other imports " + imports, imports.size(), 0);
    }
}
