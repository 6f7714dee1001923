import java.lang.reflect.Constructor;
import java.lang.reflect.Field;
import java.lang.reflect.Method;
import java.lang.reflect.Modifier;
import java.util.Arrays;
import java.util.Set;
import java.util.TreeSet;
import java.util.stream.Collectors;

/** The class has the document's face and nothing else that can be seen from outside. */
public final class FaceTest {
    private static final String[] FACE = {
        "int sink(int,int,int,int) IllegalArgumentException UnsupportedOperationException",
        "void cut(int) IllegalArgumentException",
        "void source(int,int) IllegalArgumentException",
        "void wires(int,int) IllegalArgumentException",
        "void buffer(int,int,int) IllegalArgumentException",
        "int sinks()",
        "int build(int) IllegalArgumentException NoSuchElementException",
        "int node(int,int) IllegalStateException IndexOutOfBoundsException",
        "int length() IllegalStateException",
        "int depth(int) IllegalStateException IndexOutOfBoundsException",
        "boolean set(int,boolean) IllegalStateException IndexOutOfBoundsException",
        "int setting() IllegalStateException",
        "long load(int,boolean) IllegalStateException IndexOutOfBoundsException",
        "long delay(int) IllegalStateException IndexOutOfBoundsException",
        "long slack() IllegalStateException",
        "long best() IllegalStateException",
        "int improve() IllegalStateException",
    };

    private static int wrong = 0;

    public static void main(String[] args) {
        Class<EvenClock> c = EvenClock.class;
        checkDocument();
        check("the class is public and final", Modifier.isPublic(c.getModifiers())
                && Modifier.isFinal(c.getModifiers()) && c.getPackageName().isEmpty());
        checkMethods(c);
        for (Field field : c.getDeclaredFields()) {
            check(field + " is private", Modifier.isPrivate(field.getModifiers()));
        }
        Constructor<?>[] constructors = c.getDeclaredConstructors();
        check("one public constructor without arguments", constructors.length == 1
                && constructors[0].getParameterCount() == 0 && Modifier.isPublic(constructors[0].getModifiers()));
        for (Class<?> inside : c.getDeclaredClasses()) {
            check(inside + " is static and not public", Modifier.isStatic(inside.getModifiers())
                    && !Modifier.isPublic(inside.getModifiers()));
        }
        System.out.println(wrong == 0 ? "the face is the document's" : wrong + " faults of the face");
        System.exit(wrong == 0 ? 0 : 1);
    }

    /** The signatures above are those of ../shared/DOC.md, but for the names of parameters. */
    private static void checkDocument() {
        Set<String> told = new TreeSet<>();
        for (String line : Document.face()) {
            if (line.startsWith("public ") && line.contains("(")) {
                told.add(line.replaceFirst("public ", "").replaceAll("(int|boolean) \\w+(?=[,)])", "$1")
                        .replace(", ", ",").replace(" throws", "").replaceAll("(Exception),", "$1 ").replace(";", ""));
            }
        }
        Set<String> due = new TreeSet<>(Arrays.asList(FACE));
        due.add("EvenClock()");
        check("../shared/DOC.md tells " + told + ", the test " + due, told.equals(due));
    }

    private static void checkMethods(Class<?> c) {
        Set<String> seen = new TreeSet<>();
        Set<String> names = new TreeSet<>();
        for (Method method : c.getDeclaredMethods()) {
            if (!Modifier.isPrivate(method.getModifiers())) {
                seen.add(text(method));
                names.add(method.getName());
            }
        }
        Set<String> due = new TreeSet<>(Arrays.asList(FACE));
        check("methods are " + seen + ", due are " + due, seen.equals(due));
        checkHidden(c, names);
        for (Class<?> inside : c.getDeclaredClasses()) {
            checkHidden(inside, names);
        }
    }

    private static void checkHidden(Class<?> c, Set<String> names) {
        for (Method method : c.getDeclaredMethods()) {
            boolean isFace = c == EvenClock.class && !Modifier.isPrivate(method.getModifiers());
            check(method + " bears no name of the face", isFace || !names.contains(method.getName()));
        }
    }

    private static String text(Method method) {
        String parameters = Arrays.stream(method.getParameterTypes()).map(Class::getSimpleName)
                .collect(Collectors.joining(","));
        String thrown = Arrays.stream(method.getExceptionTypes()).map(t -> " " + t.getSimpleName())
                .collect(Collectors.joining());
        return method.getReturnType().getSimpleName() + " " + method.getName() + "(" + parameters + ")" + thrown;
    }

    private static void check(String what, boolean holds) {
        if (!holds) {
            wrong++;
            System.out.println("not so: " + what);
        }
    }
}
