import java.lang.reflect.Constructor;
import java.lang.reflect.Field;
import java.lang.reflect.Method;
import java.lang.reflect.Modifier;
import java.nio.file.Files;
import java.nio.file.Path;
import java.util.ArrayList;
import java.util.List;
import java.util.TreeSet;
import java.util.regex.Matcher;
import java.util.regex.Pattern;

/** The face is the document's, and the source keeps to the rules of LANGUAGE.md that can be seen by a look. */
final class LanguageTest {
    private static final String[] FORBIDDEN_WORDS = {"throw", "throws", "try", "catch", "finally", "synchronized",
        "assert", "import", "package", "protected", "native", "transient", "volatile", "equals", "hashCode",
        "toString", "Object", "Exception", "Error", "Thread", "Random", "double", "float"};
    private static final String[] FORBIDDEN_SIGNS = {"->", "::", "static {", "Exact(", "@"};
    /** All of the library that the class uses, a part of what rule 4 leaves. */
    private static final List<String> LIBRARY = List.of("System.arraycopy", "Math.max", "Math.min", "Integer.compare",
        "Integer.bitCount");
    private static final Pattern OF_LIBRARY = Pattern.compile("\\b([A-Z]\\w*[a-z]\\w*\\.\\w+)");
    private static final Pattern DIVISOR = Pattern.compile("[/%]=?\\s*([A-Za-z0-9_(][\\w.]*)");
    private static final int MOST_PARAMETERS = 7, MOST_LINES = 60, MOST_CLASSES = 12, MOST_FIELDS = 20;
    private static final Check CHECK = new Check();

    public static void main(String[] args) throws Exception {
        Path root = Path.of(System.getProperty("project.root", "."));
        face(Files.readString(root.resolve("../shared/DOC.md")));
        members();
        classesInside();
        source(Files.readString(root.resolve("src/main/java/OrphanWave.java")));
        CHECK.end("LanguageTest");
    }

    private static void face(String document) {
        int begin = document.indexOf("public final class OrphanWave {");
        String block = document.substring(begin, document.indexOf("```", begin));
        TreeSet<String> wanted = new TreeSet<>();
        Matcher matcher = Pattern.compile("public (int|long) (\\w+)\\(([^)]*)\\);").matcher(block);
        while (matcher.find()) {
            String types = matcher.group(3).replaceAll("(int|long) \\w+", "$1").replace(" ", "");
            wanted.add(matcher.group(1) + " " + matcher.group(2) + "(" + types + ")");
        }
        TreeSet<String> there = new TreeSet<>();
        for (Method m : OrphanWave.class.getDeclaredMethods()) if (Modifier.isPublic(m.getModifiers())) there.add(signature(m));
        CHECK.due("methods of the face", wanted.size(), 41);
        CHECK.holds("methods are " + there + ", due are " + wanted, there.equals(wanted));
        CHECK.due("BAD", OrphanWave.BAD, -1);
        CHECK.due("STATE", OrphanWave.STATE, -2);
        CHECK.due("FULL", OrphanWave.FULL, -3);
        CHECK.due("NONE", OrphanWave.NONE, -9);
        CHECK.due("NO", OrphanWave.NO, -1000000);
    }

    private static String signature(Method m) {
        List<String> types = new ArrayList<>();
        for (Class<?> type : m.getParameterTypes()) types.add(type.getName());
        return m.getReturnType().getName() + " " + m.getName() + "(" + String.join(",", types) + ")";
    }

    private static void members() {
        int modifiers = OrphanWave.class.getModifiers();
        CHECK.holds("public and final", Modifier.isPublic(modifiers) && Modifier.isFinal(modifiers));
        TreeSet<String> constants = new TreeSet<>();
        for (Field f : OrphanWave.class.getDeclaredFields()) {
            if (Modifier.isPrivate(f.getModifiers())) continue;
            CHECK.holds(f + " is a constant", Modifier.isPublic(f.getModifiers()) && Modifier.isFinal(f.getModifiers()));
            constants.add(f.getName());
        }
        CHECK.holds("constants are " + constants, constants.equals(new TreeSet<>(List.of("BAD", "STATE", "FULL", "NONE", "NO"))));
        for (Method m : OrphanWave.class.getDeclaredMethods()) {
            CHECK.holds(m + " is public or private", Modifier.isPublic(m.getModifiers()) || Modifier.isPrivate(m.getModifiers()));
        }
        Constructor<?>[] made = OrphanWave.class.getDeclaredConstructors();
        CHECK.due("constructors", made.length, 1);
        CHECK.holds("the constructor", Modifier.isPublic(made[0].getModifiers()) && made[0].getParameterCount() == 0);
    }

    private static void classesInside() {
        TreeSet<String> faceNames = new TreeSet<>();
        for (Method m : OrphanWave.class.getDeclaredMethods()) if (Modifier.isPublic(m.getModifiers())) faceNames.add(m.getName());
        List<Class<?>> all = new ArrayList<>(List.of(OrphanWave.class.getDeclaredClasses()));
        for (Class<?> c : all) {
            int modifiers = c.getModifiers();
            CHECK.holds(c + " is static", Modifier.isStatic(modifiers));
            CHECK.holds(c + " is not public", !Modifier.isPublic(modifiers) && !Modifier.isProtected(modifiers));
        }
        all.add(OrphanWave.class);
        CHECK.holds(all.size() + " classes", all.size() <= MOST_CLASSES);
        for (Class<?> c : all) {
            int fields = 0;
            for (Field f : c.getDeclaredFields()) {
                if (Modifier.isStatic(f.getModifiers())) CHECK.holds(f + " is final", Modifier.isFinal(f.getModifiers()));
                else fields++;
            }
            CHECK.holds(c + " has " + fields + " fields", fields <= MOST_FIELDS);
            for (Method m : c.getDeclaredMethods()) {
                CHECK.holds(m + " has few parameters", m.getParameterCount() <= MOST_PARAMETERS);
                CHECK.holds(m + " bears no name of the face", Modifier.isPublic(m.getModifiers()) || !faceNames.contains(m.getName()));
            }
        }
    }

    private static void source(String source) {
        for (int i = 0; i < source.length(); i++) CHECK.holds("sign at " + i, source.charAt(i) < 128);
        String code = source.replaceAll("(?s)/\\*.*?\\*/", " ").replaceAll("//[^\n]*", " ");
        CHECK.holds("no texts to be joined", code.indexOf('"') < 0);
        for (String word : FORBIDDEN_WORDS) {
            CHECK.holds("no " + word, !Pattern.compile("\\b" + word + "\\b").matcher(code).find());
        }
        for (String sign : FORBIDDEN_SIGNS) CHECK.holds("no " + sign, !code.contains(sign));
        Matcher used = OF_LIBRARY.matcher(code);
        while (used.find()) CHECK.holds("no " + used.group(1), LIBRARY.contains(used.group(1)));
        methods(source.replaceAll("//[^\n]*", ""));
    }

    /** A method begins with a line that ends in ") {" at a depth of 4 or 8 blanks, and ends at a brace there. */
    private static void methods(String source) {
        int begin = -1;
        int methods = 0;
        String[] lines = source.split("\n");
        for (int i = 0; i < lines.length; i++) {
            if (lines[i].matches("( {4}| {8})[a-zA-Z].*\\) \\{")) begin = i;
            if (begin >= 0 && lines[i].matches("( {4}| {8})}")) {
                method(lines[begin].trim(), String.join("\n", List.of(lines).subList(begin, i + 1)), i - begin);
                methods++;
                begin = -1;
            }
        }
        CHECK.holds("methods were seen: " + methods, methods > 100);
    }

    private static void method(String head, String body, int lines) {
        CHECK.holds("lines of " + head, lines < MOST_LINES);
        // A constructor has no type ahead of its name; only there are objects made.
        boolean constructor = head.matches("(public )?[A-Z]\\w*\\(.*");
        CHECK.holds(head + " makes no object", constructor || !body.contains("new "));
        divisors(head, body);
    }

    /** What divides is a constant, or is held against 0 in the same method. */
    private static void divisors(String head, String body) {
        Matcher divisor = DIVISOR.matcher(body);
        while (divisor.find()) {
            String by = divisor.group(1);
            boolean constant = by.matches("[0-9]+|[A-Z][A-Z_]*");
            boolean lookedAt = by.matches("[a-z]\\w*") && body.matches("(?s).*\\b" + by + " (==|!=|<=|>) 0\\b.*");
            CHECK.holds(head + " looks at the divisor " + by, constant || lookedAt);
        }
    }
}
