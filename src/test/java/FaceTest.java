import java.io.IOException;
import java.lang.reflect.Constructor;
import java.lang.reflect.Field;
import java.lang.reflect.Method;
import java.lang.reflect.Modifier;
import java.nio.file.Files;
import java.nio.file.Path;
import java.util.Set;
import java.util.TreeSet;
import java.util.regex.Matcher;
import java.util.regex.Pattern;

/** The public face: every member of the document, and no other one that can be seen from outside. */
public final class FaceTest {
    private static final Set<String> METHODS = Set.of(
            "int tank(boolean)", "int pump()", "int valve()", "int pipe(int,int,long)",
            "boolean run(int,boolean)", "boolean bar(int,boolean)", "int way(int,int)",
            "int pipeOf(int,int)", "int valveOf(int,int)", "long rest(int)", "int other(int,int)",
            "int two(int,int,int,int)", "boolean forward(int,int,int)", "int told(int)",
            "int blow(int,int)");
    private static final Set<String> CONSTANTS = Set.of("NONE", "WRONG", "SAME", "EMPTY", "FULL");

    private static final Path DOCUMENT = Path.of("../shared/DOC.md");
    private static final Pattern FACE = Pattern.compile("(?s)## The public face\\s+```java\n(.*?)```");

    public static void main(String[] args) throws IOException {
        constants();
        visibleMembers();
        privateNames();
        documentsFace();
        Check.end();
    }

    private static void constants() {
        Check.due("NONE", WaySearch.NONE, -1);
        Check.due("WRONG", WaySearch.WRONG, -2);
        Check.due("SAME", WaySearch.SAME, -3);
        Check.due("EMPTY", WaySearch.EMPTY, -4);
        Check.due("FULL", WaySearch.FULL, -5);
    }

    private static void visibleMembers() {
        Class<?> face = WaySearch.class;
        Check.due("public and final", face.getModifiers(), Modifier.PUBLIC | Modifier.FINAL);
        Set<String> methods = new TreeSet<>();
        for (Method method : face.getDeclaredMethods()) {
            if (!Modifier.isPrivate(method.getModifiers())) {
                methods.add(signature(method));
                Check.due(method + " is public alone", method.getModifiers(), Modifier.PUBLIC);
            }
        }
        Check.due("methods " + methods, methods.equals(METHODS), true);
        Set<String> fields = new TreeSet<>();
        for (Field field : face.getDeclaredFields()) {
            if (!Modifier.isPrivate(field.getModifiers())) {
                fields.add(field.getName());
                Check.due(field + " is an int", field.getType() == int.class, true);
                Check.due(field + " is a public constant", field.getModifiers(),
                        Modifier.PUBLIC | Modifier.STATIC | Modifier.FINAL);
            }
        }
        Check.due("constants " + fields, fields.equals(CONSTANTS), true);
        Constructor<?>[] constructors = face.getDeclaredConstructors();
        Check.due("constructors", constructors.length, 1);
        Check.due("constructor's parameters", constructors[0].getParameterCount(), 0);
        Check.due("constructor is public", constructors[0].getModifiers(), Modifier.PUBLIC);
    }

    private static void privateNames() {
        Set<String> publicNames = new TreeSet<>();
        for (String method : METHODS) {
            publicNames.add(method.substring(method.indexOf(' ') + 1, method.indexOf('(')));
        }
        for (Method method : WaySearch.class.getDeclaredMethods()) {
            boolean isPrivate = Modifier.isPrivate(method.getModifiers());
            Check.due(method + " shares a public name",
                    isPrivate && publicNames.contains(method.getName()), false);
        }
        for (Class<?> inside : WaySearch.class.getDeclaredClasses()) {
            Check.due(inside + " is static", Modifier.isStatic(inside.getModifiers()), true);
            for (Method method : inside.getDeclaredMethods()) {
                Check.due(method + " shares a public name",
                        publicNames.contains(method.getName()), false);
            }
        }
    }

    /** The lines of the document's face are those of the class, in whatever order, and no others. */
    private static void documentsFace() throws IOException {
        if (!Files.exists(DOCUMENT)) {
            System.out.println(DOCUMENT + " is not here: the face is not compared with it");
            return;
        }
        Matcher face = FACE.matcher(Files.readString(DOCUMENT));
        Set<String> told = new TreeSet<>();
        if (face.find()) {
            face.group(1).lines().forEach(line -> told.add(withoutNames(line.strip())));
        }
        Set<String> shown = linesOfTheClass();
        Check.due("face in the document " + told + ", of the class " + shown, told.equals(shown), true);
    }

    /** A method's line with its parameters' types alone. */
    private static String withoutNames(String line) {
        return line.replaceAll("(boolean|int|long) \\w+(?=[,)])", "$1").replace(", ", ",");
    }

    private static Set<String> linesOfTheClass() {
        Set<String> lines = new TreeSet<>(Set.of("}"));
        lines.add(Modifier.toString(WaySearch.class.getModifiers()) + " class WaySearch {");
        for (Constructor<?> constructor : WaySearch.class.getConstructors()) {
            lines.add("public WaySearch(" + types(constructor.getParameterTypes()) + ");");
        }
        for (Method method : WaySearch.class.getDeclaredMethods()) {
            if (!Modifier.isPrivate(method.getModifiers())) {
                lines.add(Modifier.toString(method.getModifiers()) + " " + signature(method) + ";");
            }
        }
        lines.add("public static final int NONE = " + WaySearch.NONE + ";");
        lines.add("public static final int WRONG = " + WaySearch.WRONG + ";");
        lines.add("public static final int SAME = " + WaySearch.SAME + ";");
        lines.add("public static final int EMPTY = " + WaySearch.EMPTY + ";");
        lines.add("public static final int FULL = " + WaySearch.FULL + ";");
        return lines;
    }

    private static String signature(Method method) {
        return method.getReturnType().getSimpleName() + " " + method.getName()
                + "(" + types(method.getParameterTypes()) + ")";
    }

    private static String types(Class<?>[] parameters) {
        StringBuilder text = new StringBuilder();
        for (Class<?> type : parameters) {
            text.append(text.length() == 0 ? "" : ",").append(type.getSimpleName());
        }
        return text.toString();
    }
}
