import java.nio.file.Files;
import java.nio.file.Path;
import java.util.List;
import java.util.Map;
import java.util.Set;
import java.util.regex.Matcher;
import java.util.regex.Pattern;
import java.util.stream.Collectors;
import java.util.stream.Stream;

/**
 * The document sentence by sentence: src/test/edges quotes each one and has the calls that
 * would answer otherwise if it were broken (README.md tells how these files are written).
 * Every call that is refused, or only asks, is looked at with a twin: an object with the same
 * calls but this one holds the same.
 */
final class EdgesTest {
    private static final Map<String, Long> NAMES = Map.of("BAD", -1L, "STATE", -2L, "FULL", -3L, "NONE", -9L,
            "NO", -1000000L, "MIN", (long) Integer.MIN_VALUE, "MAX", (long) Integer.MAX_VALUE,
            "LONGMIN", Long.MIN_VALUE, "LONGMAX", Long.MAX_VALUE);
    private static final Set<String> CHANGING = Set.of("type", "clear", "ocean", "tune", "book", "calendar", "ring",
            "living", "wood", "felled", "sheet", "known", "story", "chance", "dug", "trust", "keep", "back");
    private static final Pattern CONSTANT = Pattern.compile("constant (\\w+) = (-?\\w+)");
    private static final Pattern TIMES = Pattern.compile("(\\d+) x (.*)");
    private static final Pattern TEXT = Pattern.compile("text \"(.*)\"");
    private static final Pattern CALL = Pattern.compile("(\\w+)((?: [-.\\w]+)*) = (-?\\w+)(?: \\.\\. (-?\\w+))?");
    private static final Check CHECK = new Check();

    private final DocText document;
    private String heading = "";
    private String sentence = "";
    private int checksOfSentence = 1;
    private Calls calls = new Calls();

    private EdgesTest(DocText document) {
        this.document = document;
    }

    public static void main(String[] args) throws Exception {
        Path root = Path.of(System.getProperty("project.root", "."));
        EdgesTest test = new EdgesTest(new DocText(root));
        try (Stream<Path> files = Files.list(root.resolve("src/test/edges"))) {
            List<Path> all = files.filter(f -> f.toString().endsWith(".txt")).sorted().collect(Collectors.toList());
            for (Path file : all) test.lines(file.getFileName().toString(), Files.readAllLines(file));
        }
        test.lines("README.md", example(Files.readAllLines(root.resolve("README.md"))));
        CHECK.due("promises of the document", test.document.promises(), 42);
        for (String words : test.document.left()) CHECK.holds("no test quotes " + words, false);
        CHECK.end("EdgesTest");
    }

    /** The lines that README.md shows of such a file. */
    private static List<String> example(List<String> readme) {
        int begin = readme.indexOf("```text");
        CHECK.holds("README.md shows such a file", begin >= 0);
        List<String> rest = readme.subList(begin + 1, readme.size());
        return rest.subList(0, rest.indexOf("```"));
    }

    private void lines(String file, List<String> lines) {
        int number = 0;
        for (String line : lines) {
            number++;
            try {
                line(line);
            } catch (RuntimeException e) {
                CHECK.holds(file + ":" + number + ": " + line + ": " + e, false);
            }
        }
        endSentence();
    }

    private void line(String line) {
        if (line.isBlank() || line.startsWith("# ")) return;
        if (line.startsWith("## ")) {
            heading = line.substring(3);
        } else if (line.startsWith("> ")) {
            endSentence();
            sentence = line.substring(2);
            checksOfSentence = 0;
            calls = new Calls();
            CHECK.holds(heading + " says: " + sentence, document.quotes(heading, sentence));
        } else if (line.equals("new")) {
            calls = new Calls();
        } else {
            step(line);
            CHECK.holds(sentence + ": no more than " + Calls.MOST + " calls", calls.made() <= Calls.MOST);
        }
    }

    private void endSentence() {
        CHECK.holds(heading + ": " + sentence + " has a test", checksOfSentence > 0);
    }

    private void step(String line) {
        Matcher times = TIMES.matcher(line);
        Matcher text = TEXT.matcher(line);
        Matcher constant = CONSTANT.matcher(line);
        Matcher call = CALL.matcher(line);
        if (times.matches()) {
            for (int i = Integer.parseInt(times.group(1)); i > 0; i--) step(times.group(2));
        } else if (text.matches()) {
            calls.type(text.group(1));
        } else if (constant.matches()) {
            due(line, constantOf(constant.group(1)), number(constant.group(2)));
        } else if (call.matches() && Calls.has(call.group(1))) {
            call(line, call);
        } else {
            throw new IllegalArgumentException("can't be read");
        }
    }

    private static long constantOf(String name) {
        return switch (name) {
            case "BAD" -> OrphanWave.BAD;
            case "STATE" -> OrphanWave.STATE;
            case "FULL" -> OrphanWave.FULL;
            case "NONE" -> OrphanWave.NONE;
            case "NO" -> OrphanWave.NO;
            default -> throw new IllegalArgumentException("no such constant");
        };
    }

    /** A call, or a row of calls by a number a..b, or by an answer a .. b. */
    private void call(String line, Matcher call) {
        String[] told = call.group(2).isEmpty() ? new String[0] : call.group(2).trim().split(" ");
        long first = number(call.group(3));
        long last = call.group(4) == null ? first : number(call.group(4));
        long rows = Math.max(last - first + 1, rowsOf(told));
        if (last > first && rows != last - first + 1) throw new IllegalArgumentException("rows don't fit");
        for (long row = 0; row < rows; row++) {
            long[] numbers = new long[told.length];
            for (int i = 0; i < told.length; i++) numbers[i] = number(told[i].replaceAll("\\.\\..*", "")) + offset(told[i], row);
            ask(line, new Calls.Call(call.group(1), numbers), last > first ? first + row : first);
        }
    }

    private static long rowsOf(String[] told) {
        long rows = 1;
        for (String token : told) {
            int dots = token.indexOf("..");
            if (dots > 0) rows = number(token.substring(dots + 2)) - number(token.substring(0, dots)) + 1;
        }
        return rows;
    }

    private static long offset(String token, long row) {
        return token.contains("..") ? row : 0;
    }

    private void ask(String line, Calls.Call call, long due) {
        long got = calls.ask(call);
        due(line, got, due);
        if (!changes(call.name(), due)) twin(line);
    }

    private void due(String line, long got, long want) {
        checksOfSentence++;
        CHECK.due(heading + " > " + sentence + "\n    " + line, got, want);
    }

    private static boolean changes(String name, long answer) {
        return CHANGING.contains(name) && (answer >= 0 || name.equals("trust") && answer != NAMES.get("NO"));
    }

    private void twin(String line) {
        Calls asked = calls.again(calls.made());
        Calls unasked = calls.again(calls.made() - 1);
        boolean same = Probe.of(asked).equals(Probe.of(unasked));
        CHECK.holds(heading + " > " + sentence + "\n    " + line + " leaves all as it was", same);
        CHECK.holds(sentence + ": " + asked.made() + " calls of a twin", asked.made() <= Calls.MOST);
    }

    private static long number(String token) {
        return NAMES.containsKey(token) ? NAMES.get(token) : Long.decode(token);
    }
}
