import java.lang.reflect.Constructor;
import java.lang.reflect.Field;
import java.lang.reflect.Method;
import java.lang.reflect.Modifier;
import java.util.Arrays;
import java.util.Set;
import java.util.TreeSet;
import java.util.stream.Collectors;

/** The public face as the document writes it, and what rules 1 and 5 of LANGUAGE.md say of members. */
public final class FaceTest {
    private static final String INDEX = " throws IndexOutOfBoundsException";
    private static final String ELEMENT = " throws NoSuchElementException";
    private static final String MANY = " throws UnsupportedOperationException";
    private static final String ARGUMENT = " throws IllegalArgumentException";
    private static final String[] FACE = {
        "boolean put(int,int)" + MANY,
        "int remove(int)" + ELEMENT,
        "int load(int,int,int,int,int)" + ARGUMENT,
        "int cut(int,int)",
        "int merge(int)" + INDEX + MANY,
        "int snapshot()" + MANY,
        "int release(int)" + INDEX,
        "int restore(int)" + INDEX,
        "int size(int)" + INDEX,
        "int get(int,int)" + INDEX + ELEMENT,
        "int rank(int,int)" + INDEX,
        "int select(int,int)" + INDEX + ELEMENT,
        "int near(int,int,boolean)" + INDEX + ELEMENT,
        "long sum(int,int,int)" + INDEX,
        "int greatest(int,int,int)" + INDEX + ELEMENT,
        "int differs(int,int)" + INDEX,
        "int firstDifference(int,int)" + INDEX + ELEMENT,
        "int open(int,int,boolean)" + INDEX + MANY,
        "int next(int)" + INDEX + ELEMENT,
        "int skip(int,int)" + INDEX + ARGUMENT,
        "int peek(int)" + INDEX + ELEMENT,
        "int close(int)" + INDEX,
        "int astray()",
    };

    private FaceTest() {
    }

    public static void main(String[] args) {
        Class<?> face = OrderedVersions.class;
        Check.due("public and final", face.getModifiers(), Modifier.PUBLIC | Modifier.FINAL);
        constructors(face);
        methods(face);
        fields(face);
        for (Class<?> inside : face.getDeclaredClasses()) {
            int modifiers = inside.getModifiers();
            Check.due(inside + " is static", Modifier.isStatic(modifiers), true);
            Check.due(inside + " is open", Modifier.isPublic(modifiers) || Modifier.isProtected(modifiers), false);
            staticFields(inside);
        }
        Check.finish("FaceTest");
    }

    private static void constructors(Class<?> face) {
        Constructor<?>[] all = face.getDeclaredConstructors();
        Check.due("constructors", all.length, 1);
        Check.same("constructor", all[0].toString(), "public OrderedVersions()");
    }

    private static void methods(Class<?> face) {
        Set<String> seen = new TreeSet<>();
        Set<String> openNames = new TreeSet<>();
        Set<String> hiddenNames = new TreeSet<>();
        for (Method method : face.getDeclaredMethods()) {
            if (Modifier.isPrivate(method.getModifiers())) {
                hiddenNames.add(method.getName());
            } else {
                Check.due(method + " is plainly public", method.getModifiers(), Modifier.PUBLIC);
                openNames.add(method.getName());
                seen.add(written(method));
            }
        }
        Check.same("methods", seen, new TreeSet<>(Arrays.asList(FACE)));
        hiddenNames.retainAll(openNames);
        Check.same("private methods with a public one's name", hiddenNames, Set.of());
    }

    private static String written(Method method) {
        String parameters = Arrays.stream(method.getParameterTypes())
            .map(Class::getSimpleName).collect(Collectors.joining(","));
        String thrown = Arrays.stream(method.getExceptionTypes())
            .map(type -> " throws " + type.getSimpleName()).collect(Collectors.joining());
        return method.getReturnType() + " " + method.getName() + "(" + parameters + ")" + thrown;
    }

    private static void fields(Class<?> face) {
        for (Field field : face.getDeclaredFields()) {
            Check.due(field + " is private", Modifier.isPrivate(field.getModifiers()), true);
        }
        staticFields(face);
    }

    private static void staticFields(Class<?> type) {
        for (Field field : type.getDeclaredFields()) {
            if (Modifier.isStatic(field.getModifiers())) {
                Check.due(field + " is final", Modifier.isFinal(field.getModifiers()), true);
                Check.due(field + " is a number", field.getType().isPrimitive(), true);
            }
        }
    }
}
