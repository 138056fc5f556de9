import java.lang.reflect.Constructor;
import java.lang.reflect.Field;
import java.lang.reflect.Method;
import java.lang.reflect.Modifier;
import java.nio.file.Files;
import java.nio.file.Path;
import java.util.Arrays;
import java.util.HashSet;
import java.util.List;
import java.util.Set;
import java.util.TreeSet;
import java.util.stream.Collectors;
import java.util.stream.Stream;

/** The public face to the letter, and the rules of LANGUAGE.md that reflection can see. */
public final class FaceTest {
    public static void main(String[] args) throws Exception {
        constantsAreAsWritten();
        headsAreThoseOfTheDocument();
        nothingElseIsVisible();
        nestedClassesAreStaticAndSmall();
        Check.end();
    }

    private static void constantsAreAsWritten() {
        Check.due("NONE", HonestScales.NONE, -1);
        Check.due("SYNTAX", HonestScales.SYNTAX, 1);
        Check.due("RANGE", HonestScales.RANGE, 2);
        Check.due("TWICE", HonestScales.TWICE, 3);
        Check.due("LIMIT", HonestScales.LIMIT, 4);
    }

    /** Reads the heads out of the document itself, so that none can be missed. */
    private static void headsAreThoseOfTheDocument() throws Exception {
        String document = Files.readString(Path.of("../shared/DOC.md"));
        String face = document.substring(document.indexOf("```java"), document.indexOf("## Terms"));
        Set<String> wanted = new TreeSet<>();
        for (String line : face.split("\n")) {
            if (line.contains("(")) {
                wanted.add(line.trim().replaceAll("int \\w+([,)])", "int$1").replace(";", ""));
            }
        }
        Set<String> found = new TreeSet<>();
        found.add("public HonestScales()");
        for (Method method : HonestScales.class.getDeclaredMethods()) {
            if (Modifier.isPublic(method.getModifiers())) {
                found.add(headOf(method));
            }
        }
        Check.due("the heads", found.toString(), wanted.toString());
        Check.due("how many heads", wanted.size(), 65);
        Check.due("the class", Modifier.toString(HonestScales.class.getModifiers()), "public final");
    }

    private static String headOf(Method method) {
        String head = Modifier.toString(method.getModifiers()) + " " + method.getReturnType() + " " + method.getName();
        head += Arrays.stream(method.getParameterTypes()).map(Class::getName).collect(Collectors.joining(", ", "(", ")"));
        List<Class<?>> thrown = List.of(method.getExceptionTypes());
        if (!thrown.isEmpty()) {
            head += thrown.stream().map(Class::getSimpleName).collect(Collectors.joining(", ", " throws ", ""));
        }
        return head;
    }

    private static void nothingElseIsVisible() {
        Set<String> constants = Set.of("NONE", "SYNTAX", "RANGE", "TWICE", "LIMIT");
        Set<String> publicNames = new HashSet<>();
        for (Method method : HonestScales.class.getDeclaredMethods()) {
            if (Modifier.isPublic(method.getModifiers())) {
                publicNames.add(method.getName());
            }
        }
        for (Field field : HonestScales.class.getDeclaredFields()) {
            int marks = field.getModifiers();
            Check.due(field + " is hidden", Modifier.isPrivate(marks), !constants.contains(field.getName()));
            Check.due(field + " is final, if it is static", Modifier.isFinal(marks) || !Modifier.isStatic(marks), true);
        }
        for (Method method : HonestScales.class.getDeclaredMethods()) {
            if (!Modifier.isPublic(method.getModifiers())) {
                Check.due(method + " is private", Modifier.isPrivate(method.getModifiers()), true);
                Check.due(method + " has a name of its own", publicNames.contains(method.getName()), false);
            }
        }
        Constructor<?>[] constructors = HonestScales.class.getDeclaredConstructors();
        Check.due("constructors", constructors.length, 1);
    }

    private static void nestedClassesAreStaticAndSmall() {
        Class<?>[] inside = HonestScales.class.getDeclaredClasses();
        Check.due("at most twelve classes", inside.length + 1 <= 12, true);
        for (Class<?> one : Stream.concat(Stream.of(HonestScales.class), Arrays.stream(inside)).toList()) {
            Check.due(one + " is static", one == HonestScales.class || Modifier.isStatic(one.getModifiers()), true);
            long held = Arrays.stream(one.getDeclaredFields()).filter(f -> !Modifier.isStatic(f.getModifiers())).count();
            Check.due(one + " has at most twenty fields", held <= 20, true);
            for (Method method : one.getDeclaredMethods()) {
                Check.due(method + " takes at most seven", method.getParameterCount() <= 7, true);
            }
        }
    }
}
