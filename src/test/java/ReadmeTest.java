import java.io.StringWriter;
import java.lang.reflect.Method;
import java.lang.reflect.Modifier;
import java.net.URL;
import java.net.URLClassLoader;
import java.nio.file.Files;
import java.nio.file.Path;
import java.util.LinkedHashMap;
import java.util.List;
import java.util.Map;
import java.util.TreeSet;
import java.util.regex.Matcher;
import java.util.regex.Pattern;
import java.util.stream.Collectors;
import java.util.stream.Stream;
import javax.tools.JavaCompiler;
import javax.tools.StandardJavaFileManager;
import javax.tools.ToolProvider;

/**
 * What README.md says is so: its calls compile and answer as it tells, its command stands there
 * and runs every test, and it names every test and no other.
 */
final class ReadmeTest {
    private static final Pattern BLOCK = Pattern.compile("(?ms)^```(\\w+)\n(.*?)^```$");
    private static final Pattern TOLD = Pattern.compile("\\s*(x\\.(\\w+)\\(.*\\));\\s+// = (-?\\w+)(:.*)?");
    private static final Pattern NUMBERS = Pattern.compile("`\\w+Test`\\s+\\((?:promises )?([0-9 to,]+)\\)");
    private static final int PROMISES = 42;
    private static final Check CHECK = new Check();
    private static final TreeSet<String> CALLED = new TreeSet<>();

    public static void main(String[] args) throws Exception {
        Path root = Path.of(System.getProperty("project.root", "."));
        String readme = Files.readString(root.resolve("README.md"));
        calls(readme);
        allOfTheFace(readme);
        command(root, readme);
        tests(root, readme);
        promises(readme);
        CHECK.end("ReadmeTest");
    }

    private static List<String> blocks(String readme, String kind) {
        return BLOCK.matcher(readme).results().filter(m -> m.group(1).equals(kind)).map(m -> m.group(2))
                .collect(Collectors.toList());
    }

    private static void calls(String readme) throws Exception {
        Path made = Files.createTempDirectory("readme");
        try {
            compile(made, source(blocks(readme, "java")));
            Map<String, long[]> answers = new LinkedHashMap<>();
            try (URLClassLoader loader = new URLClassLoader(new URL[] {made.toUri().toURL()}, ReadmeTest.class.getClassLoader())) {
                loader.loadClass("ReadmeCalls").getMethod("run", Map.class).invoke(null, answers);
            }
            answers.forEach((call, both) -> CHECK.due("README.md, " + call, both[0], both[1]));
            CHECK.holds("README.md tells answers", answers.size() >= CALLED.size());
        } finally {
            try (Stream<Path> files = Files.list(made)) {
                for (Path file : files.collect(Collectors.toList())) Files.delete(file);
            }
            Files.delete(made);
        }
    }

    /** A block that begins with static is a method; each other one is a part of run() with its own names. */
    private static String source(List<String> blocks) {
        StringBuilder methods = new StringBuilder();
        StringBuilder parts = new StringBuilder();
        int number = 0;
        for (String block : blocks) {
            number++;
            if (block.startsWith("static ")) methods.append(block);
            else parts.append("{\n").append(part(block, number)).append("}\n");
        }
        return "public final class ReadmeCalls {\n" + methods
                + "public static void run(java.util.Map<String, long[]> answers) {\n" + parts + "}\n}\n";
    }

    private static String part(String block, int number) {
        StringBuilder code = new StringBuilder();
        int line = 0;
        for (String text : block.split("\n")) {
            line++;
            Matcher told = TOLD.matcher(text);
            if (told.matches()) {
                CALLED.add(told.group(2));
                String name = "block " + number + ", line " + line + ": " + told.group(1).replace("\"", "'");
                String due = told.group(3).matches("[A-Z]+") ? "OrphanWave." + told.group(3) : told.group(3) + "L";
                code.append("answers.put(\"").append(name).append("\", new long[] {").append(told.group(1))
                        .append(", ").append(due).append("});\n");
            } else {
                CHECK.holds("README.md tells what is answered: " + text, !text.startsWith("x."));
                code.append(text).append('\n');
            }
        }
        return code.toString();
    }

    private static void compile(Path made, String source) throws Exception {
        Path file = made.resolve("ReadmeCalls.java");
        Files.writeString(file, source);
        JavaCompiler compiler = ToolProvider.getSystemJavaCompiler();
        StringWriter told = new StringWriter();
        try (StandardJavaFileManager files = compiler.getStandardFileManager(null, null, null)) {
            List<String> options = List.of("-d", made.toString(), "-cp", System.getProperty("java.class.path"));
            boolean compiles = compiler.getTask(told, files, null, options, null, files.getJavaFileObjects(file)).call();
            CHECK.holds("README.md's calls compile:\n" + told, compiles);
        }
    }

    private static void allOfTheFace(String readme) {
        for (Method m : OrphanWave.class.getDeclaredMethods()) {
            if (Modifier.isPublic(m.getModifiers())) CHECK.holds("README.md shows " + m.getName(), CALLED.contains(m.getName()));
        }
        for (String name : List.of("BAD", "STATE", "FULL", "NONE", "NO")) {
            CHECK.holds("README.md tells of " + name, readme.contains("`" + name + "`"));
        }
    }

    private static void command(Path root, String readme) {
        CHECK.holds("the one command is .ci/run", blocks(readme, "sh").equals(List.of("bash .ci/run\n")));
        CHECK.holds(".ci/run can be executed", Files.isExecutable(root.resolve(".ci/run")));
    }

    /** The command runs what is named *Test.java: so is everything that has a main method. */
    private static void tests(Path root, String readme) throws Exception {
        TreeSet<String> there = new TreeSet<>();
        try (Stream<Path> files = Files.walk(root.resolve("src/test"))) {
            for (Path file : files.filter(f -> f.toString().endsWith(".java")).collect(Collectors.toList())) {
                if (!Files.readString(file).contains("public static void " + "main(")) continue;
                CHECK.holds(file + " is run", file.getParent().equals(root.resolve("src/test/java")));
                there.add(file.getFileName().toString().replace(".java", ""));
            }
        }
        TreeSet<String> named = new TreeSet<>();
        Matcher names = Pattern.compile("`(\\w+Test)`").matcher(readme);
        while (names.find()) named.add(names.group(1));
        CHECK.holds("README.md names " + named + ", there are " + there, named.equals(there));
    }

    private static void promises(String readme) {
        TreeSet<Integer> told = new TreeSet<>();
        Matcher tests = NUMBERS.matcher(readme);
        while (tests.find()) {
            for (String span : tests.group(1).split(",")) {
                String[] ends = span.trim().split(" to ");
                for (int p = Integer.parseInt(ends[0]); p <= Integer.parseInt(ends[ends.length - 1]); p++) told.add(p);
            }
        }
        CHECK.due("promises that README.md has tests for", told.size(), PROMISES);
    }
}
