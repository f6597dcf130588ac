import java.lang.reflect.Constructor;
import java.lang.reflect.Field;
import java.lang.reflect.Method;
import java.lang.reflect.Modifier;
import java.nio.file.Files;
import java.nio.file.Path;
import java.util.List;
import java.util.TreeSet;
import java.util.regex.Matcher;
import java.util.regex.Pattern;

/** The public face, and those rules of LANGUAGE.md that can be seen from the class and its text. */
public final class FaceTest {
    private static final Check CHECK = new Check("FaceTest");
    private static final List<String> FACE = List.of("int feed(int,int,int,int,int)", "int end(int)",
            "int program(int)", "int fault(int)", "int act(int,int,int)", "int input()", "int byteOf(int,int)",
            "boolean drop()", "int run(int,int)", "int ran(int)", "int told(int)", "int left(int)",
            "int leftOf(int,int)", "int heaps(int)", "int heap(int,int,int)", "int heapOf(int,int)",
            "int small(int,int)", "int smallByte(int,boolean)", "int ruled(int,int)", "int nearest(int,int)",
            "int nearestByte(int,int)", "int held(int,int,int)", "int heldAll(int,int,int)", "int about(int)");

    public static void main(String[] args) throws Exception {
        face();
        membersInside();
        text();
        CHECK.finish();
    }

    private static String shown(Method m) {
        StringBuilder b = new StringBuilder(m.getReturnType() + " " + m.getName() + "(");
        String comma = "";
        for (Class<?> c : m.getParameterTypes()) {
            b.append(comma).append(c);
            comma = ",";
        }
        return b + ")";
    }

    private static void face() {
        CHECK.due("public final", FallBench.class.getModifiers(), Modifier.PUBLIC | Modifier.FINAL);
        CHECK.due("NONE", FallBench.NONE, -1);
        TreeSet<String> open = new TreeSet<>();
        for (Method m : FallBench.class.getDeclaredMethods()) {
            if (!Modifier.isPrivate(m.getModifiers())) {
                CHECK.due("public alone: " + m, m.getModifiers(), Modifier.PUBLIC);
                open.add(shown(m));
            }
        }
        CHECK.due("methods " + open, open.equals(new TreeSet<>(FACE)), true);
        for (Field f : FallBench.class.getDeclaredFields()) {
            boolean isFace = f.getName().equals("NONE");
            CHECK.due("private: " + f, Modifier.isPrivate(f.getModifiers()), !isFace);
        }
        Constructor<?>[] made = FallBench.class.getDeclaredConstructors();
        CHECK.due("one constructor", made.length, 1);
        CHECK.due("without parameters", made[0].getParameterCount(), 0);
        CHECK.due("public constructor", made[0].getModifiers(), Modifier.PUBLIC);
    }

    private static void membersInside() {
        TreeSet<String> names = new TreeSet<>();
        FACE.forEach(m -> names.add(m.substring(m.indexOf(' ') + 1, m.indexOf('('))));
        Class<?>[] inside = FallBench.class.getDeclaredClasses();
        CHECK.due("at most twelve classes", inside.length <= 12, true);
        for (Class<?> c : inside) {
            CHECK.due("static: " + c, Modifier.isStatic(c.getModifiers()), true);
            CHECK.due("not public: " + c, Modifier.isPublic(c.getModifiers()), false);
            CHECK.due("at most twenty fields: " + c, c.getDeclaredFields().length <= 20, true);
            for (Method m : c.getDeclaredMethods()) {
                CHECK.due("no name of the face: " + m, names.contains(m.getName()), false);
                CHECK.due("at most seven parameters: " + m, m.getParameterCount() <= 7, true);
            }
        }
    }

    private static void text() throws Exception {
        String text = Files.readString(Path.of("src/main/java/FallBench.java"));
        String code = text.replaceAll("(?s)/\\*.*?\\*/", "").replaceAll("//[^\n]*", "").replaceAll("\"[^\"]*\"", "");
        for (String word : List.of("throw", "throws", "try", "catch", "finally", "synchronized", "assert", "package",
                "protected", "native", "volatile", "random", "currentTimeMillis", "nanoTime")) {
            CHECK.due("no '" + word + "'", Pattern.compile("\\b" + word + "\\b").matcher(code).find(), false);
        }
        CHECK.due("no lambda", code.contains("->"), false);
        CHECK.due("no method reference", code.contains("::"), false);
        CHECK.due("no method ending in Exact", code.contains("Exact("), false);
        List<String> library = List.of("java.util.Arrays", "java.util.ArrayList", "java.util.List", "java.util.Iterator");
        Matcher imports = Pattern.compile("import ([^;]*);").matcher(code);
        while (imports.find()) {
            CHECK.due("import " + imports.group(1), library.contains(imports.group(1)), true);
        }
    }
}
