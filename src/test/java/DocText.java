import java.nio.file.Files;
import java.nio.file.Path;
import java.util.ArrayList;
import java.util.Arrays;
import java.util.List;
import java.util.Map;
import java.util.TreeMap;

/** The document by its headings, with what has been quoted of it. */
final class DocText {
    private final Map<String, String> texts = new TreeMap<>();
    private final Map<String, boolean[]> quoted = new TreeMap<>();

    DocText(Path root) throws Exception {
        String heading = "";
        StringBuilder text = new StringBuilder();
        for (String line : Files.readAllLines(root.resolve("../shared/DOC.md"))) {
            if (line.startsWith("## ")) {
                add(heading, text.toString());
                heading = line.substring(3).replaceAll(":.*", "");
                text.setLength(0);
            } else if (!line.startsWith("```") && !line.startsWith("Ahead of the calls ")) {
                text.append(line).append(' ');
            }
        }
        add(heading, text.toString());
    }

    private void add(String heading, String text) {
        // A promise begins with its call, whose face LanguageTest looks at.
        texts.put(heading, text.replaceAll("\\s+", " ").trim().replaceAll("^`[^`]*`: ", ""));
        quoted.put(heading, new boolean[text.length()]);
    }

    /** Whether the words stand under the heading; they count as quoted then. */
    boolean quotes(String heading, String words) {
        String text = texts.getOrDefault(heading, "");
        int at = text.indexOf(words);
        if (at < 0) return false;
        while (at >= 0) {
            Arrays.fill(quoted.get(heading), at, at + words.length(), true);
            at = text.indexOf(words, at + 1);
        }
        return true;
    }

    /** What stands under What it is, Terms and the promises, and is not quoted yet. */
    List<String> left() {
        List<String> all = new ArrayList<>();
        for (String heading : texts.keySet()) {
            if (!heading.matches("What it is|Terms|Promise .*")) continue;
            StringBuilder rest = new StringBuilder();
            String text = texts.get(heading);
            for (int i = 0; i < text.length(); i++) rest.append(quoted.get(heading)[i] ? '|' : text.charAt(i));
            for (String words : rest.toString().split("\\|+")) {
                // Between quotes there may be blanks, points, and the number of a chapter.
                if (!words.replaceAll("======== [1-5]", "").matches("[ .;:]*")) all.add(heading + ": " + words);
            }
        }
        return all;
    }

    long promises() {
        return texts.keySet().stream().filter(h -> h.startsWith("Promise ")).count();
    }
}
