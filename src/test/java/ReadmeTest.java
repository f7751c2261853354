import java.io.IOException;
import java.lang.reflect.Method;
import java.lang.reflect.Modifier;
import java.nio.file.DirectoryStream;
import java.nio.file.Files;
import java.nio.file.Path;
import java.util.ArrayList;
import java.util.List;
import java.util.TreeSet;
import java.util.regex.Matcher;
import java.util.regex.Pattern;

/** README.md is so when it is tried: every example answers as told, every command ends well, every test is listed. */
public final class ReadmeTest extends Checks {
    private static final Pattern BLOCK = Pattern.compile("(?ms)^```(\\w+)\n(.*?)^```$");
    private static final Pattern EXAMPLE = Pattern.compile("(x\\.(\\w+)\\(.*\\)); +// (-?\\d+|[A-Z]+): .+");
    private static final Pattern TEST_FILE = Pattern.compile("src/test/java/\\w+\\.java");
    private static final Path TESTS = Path.of("src/test/java");

    private static List<String> blocks(String page, String language) {
        List<String> found = new ArrayList<>();
        for (Matcher block = BLOCK.matcher(page); block.find();) {
            if (block.group(1).equals(language)) found.add(block.group(2));
        }
        return found;
    }

    /** The examples as one program: it prints a line for each answer that is not the told one, and ends with 1 if there was one. */
    private static String program(List<String> blocks, TreeSet<String> called) {
        StringBuilder code = new StringBuilder("public final class Examples {\n"
            + "static int wrong = 0;\n"
            + "static void due(String call, long got, long told) {\n"
            + "if (got != told) wrong++;\n"
            + "if (got != told) System.out.println(call + \" answered \" + got + \", told is \" + told);\n}\n"
            + "public static void main(String[] args) {\n");
        for (String block : blocks) {
            for (String line : block.split("\n")) {
                Matcher example = EXAMPLE.matcher(line);
                if (example.matches()) {
                    String told = example.group(3);
                    called.add(example.group(2));
                    code.append("due(\"").append(example.group(1)).append("\", ").append(example.group(1)).append(", ");
                    code.append(Character.isLetter(told.charAt(0)) ? "ChalkTramps." + told : told + "L").append(");\n");
                } else {
                    due("an answer is told: " + line, !line.startsWith("x."));
                    code.append(line).append('\n');
                }
            }
        }
        return code.append("if (wrong != 0) System.exit(1);\n}\n}\n").toString();
    }

    private static void endsWell(String what, String... command) throws IOException, InterruptedException {
        Process process = new ProcessBuilder(command).redirectErrorStream(true).start();
        process.getOutputStream().close();
        String printed = new String(process.getInputStream().readAllBytes());
        boolean well = process.waitFor() == 0;
        due(well ? what : what + ", but: " + printed, well);
    }

    private static void examples(String page) throws IOException, InterruptedException {
        TreeSet<String> called = new TreeSet<>();
        String program = program(blocks(page, "java"), called);
        Path classes = Files.createTempDirectory("readme");
        Path source = classes.resolve("Examples.java");
        Files.writeString(source, program);
        endsWell("the examples compile", "javac", "--release", "17", "-d", classes.toString(),
            "src/main/java/ChalkTramps.java", source.toString());
        endsWell("the examples answer as told", "java", "-cp", classes.toString(), "Examples");
        endsWell("what was made is gone again", "rm", "-r", classes.toString());
        for (Method method : ChalkTramps.class.getDeclaredMethods()) {
            if (Modifier.isPublic(method.getModifiers())) due("an example calls " + method.getName(), called.contains(method.getName()));
        }
    }

    private static void commands(String page) throws IOException, InterruptedException {
        boolean all = false;
        for (String block : blocks(page, "sh")) {
            // .ci/run runs this test, so it is not run from here.
            if (block.equals(".ci/run\n")) {
                all = true;
                continue;
            }
            endsWell("this ends well: " + block, "sh", "-e", "-c", block);
        }
        due("the page tells .ci/run", all);
        due(".ci/run can be run", Files.isExecutable(Path.of(".ci/run")));
    }

    private static void listOfTests(String page) throws IOException {
        TreeSet<String> told = new TreeSet<>();
        for (Matcher file = TEST_FILE.matcher(page); file.find();) told.add(file.group());
        TreeSet<String> there = new TreeSet<>();
        try (DirectoryStream<Path> files = Files.newDirectoryStream(TESTS, "*.java")) {
            for (Path file : files) there.add(file.toString().replace('\\', '/'));
        }
        due("files told " + told + ", there are " + there, told.equals(there));
    }

    public static void main(String[] args) throws IOException, InterruptedException {
        String page = Files.readString(Path.of("README.md"));
        about("README.md");
        examples(page);
        commands(page);
        listOfTests(page);
        end();
    }
}
