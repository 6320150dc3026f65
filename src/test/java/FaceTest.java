import java.io.IOException;
import java.lang.reflect.Constructor;
import java.lang.reflect.Field;
import java.lang.reflect.Method;
import java.lang.reflect.Modifier;
import java.nio.file.Files;
import java.nio.file.Path;
import java.util.Arrays;
import java.util.Set;
import java.util.TreeSet;
import java.util.regex.Matcher;
import java.util.regex.Pattern;
import java.util.stream.Collectors;

/** The public face as the document writes it, and what rules 1 and 5 of LANGUAGE.md say of members. */
public final class FaceTest {
    private static final Path DOCUMENT = Path.of("../shared/DOC.md");
    private static final Pattern METHOD = Pattern.compile("    public (\\w+ \\w+)\\((.*?)\\)(?: throws (.*))?;");

    private FaceTest() {
    }

    public static void main(String[] args) throws IOException {
        Class<?> face = OrderedVersions.class;
        Check.due("public and final", face.getModifiers(), Modifier.PUBLIC | Modifier.FINAL);
        constructors(face);
        methods(face);
        fields(face);
        for (Class<?> inside : face.getDeclaredClasses()) {
            int modifiers = inside.getModifiers();
            Check.due(inside + " is static", Modifier.isStatic(modifiers), true);
            Check.due(inside + " is open", Modifier.isPublic(modifiers) || Modifier.isProtected(modifiers), false);
            staticFields(inside);
        }
        Check.finish("FaceTest");
    }

    private static void constructors(Class<?> face) {
        Constructor<?>[] all = face.getDeclaredConstructors();
        Check.due("constructors", all.length, 1);
        Check.same("constructor", all[0].toString(), "public OrderedVersions()");
    }

    private static void methods(Class<?> face) throws IOException {
        Set<String> seen = new TreeSet<>();
        Set<String> openNames = new TreeSet<>();
        Set<String> hiddenNames = new TreeSet<>();
        for (Method method : face.getDeclaredMethods()) {
            if (Modifier.isPrivate(method.getModifiers())) {
                hiddenNames.add(method.getName());
            } else {
                Check.due(method + " is plainly public", method.getModifiers(), Modifier.PUBLIC);
                openNames.add(method.getName());
                seen.add(written(method));
            }
        }
        Check.same("methods", seen, ofTheDocument());
        hiddenNames.retainAll(openNames);
        Check.same("private methods with a public one's name", hiddenNames, Set.of());
    }

    /** As written(method) would tell them: without the names of parameters. */
    private static Set<String> ofTheDocument() throws IOException {
        Set<String> found = new TreeSet<>();
        for (String line : Files.readAllLines(DOCUMENT)) {
            Matcher method = METHOD.matcher(line);
            if (method.matches()) {
                String parameters = method.group(2).replaceAll(" \\w+(?=,|$)", "");
                String thrown = method.group(3) == null ? "" : method.group(3);
                found.add(method.group(1) + "(" + parameters + ") throws " + thrown);
            }
        }
        Check.due("methods of the document", found.size(), 23);
        return found;
    }

    private static String written(Method method) {
        return method.getReturnType() + " " + method.getName() + "(" + listed(method.getParameterTypes())
            + ") throws " + listed(method.getExceptionTypes());
    }

    private static String listed(Class<?>[] types) {
        return Arrays.stream(types).map(Class::getSimpleName).collect(Collectors.joining(", "));
    }

    private static void fields(Class<?> face) {
        for (Field field : face.getDeclaredFields()) {
            Check.due(field + " is private", Modifier.isPrivate(field.getModifiers()), true);
        }
        staticFields(face);
    }

    private static void staticFields(Class<?> type) {
        for (Field field : type.getDeclaredFields()) {
            if (Modifier.isStatic(field.getModifiers())) {
                Check.due(field + " is final", Modifier.isFinal(field.getModifiers()), true);
                Check.due(field + " is a number", field.getType().isPrimitive(), true);
            }
        }
    }
}
