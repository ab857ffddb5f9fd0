import java.io.IOException;
import java.lang.reflect.Constructor;
import java.lang.reflect.Field;
import java.lang.reflect.Method;
import java.lang.reflect.Modifier;
import java.nio.file.Files;
import java.nio.file.Path;
import java.util.Arrays;
import java.util.Set;
import java.util.TreeSet;
import java.util.regex.Matcher;
import java.util.regex.Pattern;
import java.util.stream.Collectors;

/** "The public face": what the document writes down there stands in the class, and nothing beside it can be seen. */
public final class FaceTest {
    private FaceTest() {
    }

    public static void main(String[] args) throws IOException, IllegalAccessException {
        String doc = Files.readString(Path.of("../shared/DOC.md"));
        int from = doc.indexOf("public final class MudLibrary {");
        String face = doc.substring(from, doc.indexOf("```", from));
        Class<?> is = MudLibrary.class;
        Check.due("public and final", is.getModifiers(), Modifier.PUBLIC | Modifier.FINAL);
        Check.isTrue("without a package", is.getPackageName().isEmpty());
        Check.isTrue("under nothing", is.getSuperclass() == Object.class && is.getInterfaces().length == 0);
        same("constants", constantsOf(face), constantsOf(is));
        same("calls", callsOf(face), callsOf(is));
        constructors(is);
        for (Class<?> inside : is.getDeclaredClasses()) {
            int told = inside.getModifiers();
            Check.isTrue(inside + " is static", Modifier.isStatic(told));
            Check.isTrue(inside + " is private or package-visible", !Modifier.isPublic(told) && !Modifier.isProtected(told));
        }
        Check.end("FaceTest");
    }

    private static void same(String what, Set<String> due, Set<String> are) {
        Check.isTrue("the document has " + what, !due.isEmpty());
        for (String one : due) {
            Check.isTrue("the class has " + one, are.contains(one));
        }
        for (String one : are) {
            Check.isTrue("the document has " + one, due.contains(one));
        }
    }

    private static Set<String> constantsOf(String face) {
        Set<String> all = new TreeSet<>();
        Matcher line = Pattern.compile("public static final (int|long) ([^;]*);").matcher(face);
        while (line.find()) {
            for (String one : line.group(2).split(",")) {
                String[] sides = one.replaceAll("(?<=[0-9])L$", "").split("=");
                all.add(line.group(1) + " " + sides[0].trim() + " = " + sides[1].trim());
            }
        }
        return all;
    }

    private static Set<String> constantsOf(Class<?> is) throws IllegalAccessException {
        Set<String> all = new TreeSet<>();
        for (Field field : is.getDeclaredFields()) {
            if (!Modifier.isPrivate(field.getModifiers())) {
                boolean constant = field.getModifiers() == (Modifier.PUBLIC | Modifier.STATIC | Modifier.FINAL);
                all.add(field.getType() + " " + field.getName() + (constant ? " = " + field.get(null) : ""));
            }
        }
        return all;
    }

    private static Set<String> callsOf(String face) {
        Set<String> all = new TreeSet<>();
        Matcher line = Pattern.compile("public (int|long) (\\w+)\\(([^)]*)\\);").matcher(face);
        while (line.find()) {
            all.add(line.group(1) + " " + line.group(2) + "(" + line.group(3).replaceAll(" \\w+(?=,|$)", "") + ")");
        }
        return all;
    }

    private static Set<String> callsOf(Class<?> is) {
        Set<String> all = new TreeSet<>();
        for (Method method : is.getDeclaredMethods()) {
            if (!Modifier.isPrivate(method.getModifiers())) {
                boolean plain = method.getModifiers() == Modifier.PUBLIC && method.getExceptionTypes().length == 0;
                String given = Arrays.stream(method.getParameterTypes()).map(Class::toString).collect(Collectors.joining(", "));
                all.add((plain ? "" : "not plain: ") + method.getReturnType() + " " + method.getName() + "(" + given + ")");
            }
        }
        return all;
    }

    private static void constructors(Class<?> is) {
        Check.due("constructors", is.getDeclaredConstructors().length, 1);
        for (Constructor<?> one : is.getDeclaredConstructors()) {
            Check.due("it is public", one.getModifiers(), Modifier.PUBLIC);
            Check.due("it takes nothing", one.getParameterCount(), 0);
        }
    }
}
