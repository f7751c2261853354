import java.io.IOException;
import java.lang.reflect.Constructor;
import java.lang.reflect.Field;
import java.lang.reflect.Method;
import java.lang.reflect.Modifier;
import java.nio.file.Files;
import java.nio.file.Path;
import java.util.Arrays;
import java.util.TreeSet;
import java.util.regex.Matcher;
import java.util.regex.Pattern;

/** The face is the document's and no more, and the source keeps to the rules of LANGUAGE.md that can be seen by a look. */
public final class FaceTest {
    private static final String[] FACE = {
        "int write(int)", "int wipe()", "int fault()", "int hill()", "int kiln(int, int)", "int tramp(int, int)",
        "int at(int)", "int night()", "int walk(int, int)", "int tell(int, int)", "int wash(int)", "int undo()",
        "int later(int, int, int)", "int hummock(int)", "int soon(int, int, int)", "int beneath(int)",
        "int judge(int, long)", "int knew(int, int)", "int unknew()", "int lay(int)", "int share(int, boolean)",
        "int rests(int, int, int)", "int cold(int, int, int, boolean)", "long seed(long)", "int years(int)",
        "int keep(int)", "int again(int)", "int count(int)"};
    private static final String[] CONSTANTS = {"UNKNOWN", "OUTSIDE", "STATE", "FULL", "NONE"};
    private static final String[] NOT_ALLOWED = {
        "\\b(throw|throws|try|catch|synchronized|assert|import|package|protected)\\b", "->", "::", "\\bException\\b",
        "\\bInteger\\.(?!bitCount)", "\\bMath\\.(?!abs|max|min)\\w+", "Exact\\b", "\\bSystem\\.(?!arraycopy)",
        "\\b(Object|Random|Thread|double|float)\\b", "\\bstatic\\s*\\{", "while\\s*\\(true\\)", "for\\s*\\(;;"};
    private static int wrong = 0;

    private static void due(String what, Object got, Object want) {
        if (!got.equals(want)) {
            wrong++;
            System.out.println(what + ": is " + got + ", due is " + want);
        }
    }

    private static String told(Method method) {
        String types = Arrays.toString(Arrays.stream(method.getParameterTypes()).map(Class::getSimpleName).toArray());
        return method.getReturnType().getSimpleName() + " " + method.getName() + "(" + types.substring(1, types.length() - 1) + ")";
    }

    private static void face() {
        due("the class", Modifier.toString(ChalkTramps.class.getModifiers()), "public final");
        TreeSet<String> methods = new TreeSet<>();
        TreeSet<String> names = new TreeSet<>();
        for (Method method : ChalkTramps.class.getDeclaredMethods()) {
            if (Modifier.isPrivate(method.getModifiers())) continue;
            due(method.getName(), Modifier.toString(method.getModifiers()), "public");
            methods.add(told(method));
            names.add(method.getName());
        }
        due("methods", methods, new TreeSet<>(Arrays.asList(FACE)));
        TreeSet<String> constants = new TreeSet<>();
        for (Field field : ChalkTramps.class.getDeclaredFields()) {
            if (!Modifier.isPrivate(field.getModifiers())) constants.add(field.getName());
        }
        due("constants", constants, new TreeSet<>(Arrays.asList(CONSTANTS)));
        Constructor<?>[] made = ChalkTramps.class.getDeclaredConstructors();
        due("constructors", made.length, 1);
        due("the constructor", made[0].toString(), "public ChalkTramps()");
        privateNames(ChalkTramps.class, names);
    }

    private static void privateNames(Class<?> type, TreeSet<String> names) {
        for (Method method : type.getDeclaredMethods()) {
            boolean own = type == ChalkTramps.class && Modifier.isPublic(method.getModifiers());
            if (!own) due("a name of the face on " + type + "." + method.getName(), names.contains(method.getName()), false);
            due("parameters of " + method.getName(), method.getParameterCount() <= 7, true);
        }
        int fields = 0;
        for (Field field : type.getDeclaredFields()) {
            int how = field.getModifiers();
            if (Modifier.isStatic(how)) due("static " + field.getName(), Modifier.isFinal(how), true);
            else fields++;
        }
        due("at most twenty fields in " + type, fields <= 20, true);
        for (Class<?> inside : type.getDeclaredClasses()) {
            due("static " + inside, Modifier.isStatic(inside.getModifiers()), true);
            privateNames(inside, names);
        }
    }

    private static void source() throws IOException {
        String source = Files.readString(Path.of("src/main/java/ChalkTramps.java"));
        String code = source.replaceAll("(?s)/\\*.*?\\*/", "").replaceAll("//[^\n]*", "");
        for (String rule : NOT_ALLOWED) {
            Matcher found = Pattern.compile(rule).matcher(code);
            due("in the source: " + rule, found.find() ? found.group() : "nothing", "nothing");
        }
        int classes = code.split("\\bclass\\b").length - 1;
        due("at most twelve classes", classes <= 12, true);
    }

    public static void main(String[] args) throws IOException {
        face();
        source();
        System.out.println(wrong == 0 ? "the face is as due" : wrong + " things are not as due");
        if (wrong != 0) System.exit(1);
    }
}
