import java.io.IOException;
import java.nio.file.Files;
import java.nio.file.Path;
import java.util.ArrayList;
import java.util.LinkedHashMap;
import java.util.List;
import java.util.Map;

/** The document, section by section, and which of its words no test has quoted. */
final class Document {
    private final Map<String, String> sections = new LinkedHashMap<>();
    private final Map<String, boolean[]> quoted = new LinkedHashMap<>();

    Document(Path path) throws IOException {
        for (String part : Files.readString(path).split("(?m)^## ")) {
            String title = part.split("\n", 2)[0];
            if (!title.startsWith("# ")) {
                String text = part.substring(title.length());
                // The interface of a promise and the marks around its text are no words of it.
                text = text.replaceAll("```(text|java)?", " ").replaceAll("`[^`]*\\([^`]*\\)`:", " ");
                String name = title.split(":")[0];
                sections.put(name, flat(text));
                quoted.put(name, new boolean[sections.get(name).length()]);
            }
        }
    }

    private static String flat(String text) {
        return text.replaceAll("\\s+", " ").trim();
    }

    int sections() {
        return sections.size();
    }

    /** Whether the section has these words; the first such place that is not quoted yet is, then. */
    boolean quote(String section, String words) {
        String text = sections.get(section);
        if (text == null) {
            return false;
        }
        String sought = flat(words);
        boolean[] marks = quoted.get(section);
        int last = -1;
        for (int at = text.indexOf(sought); at >= 0; at = text.indexOf(sought, at + 1)) {
            last = at;
            if (!marks[at]) {
                break;
            }
        }
        if (last < 0) {
            return false;
        }
        java.util.Arrays.fill(marks, last, last + sought.length(), true);
        return true;
    }

    List<String> unquoted() {
        List<String> all = new ArrayList<>();
        for (String section : sections.keySet()) {
            String text = sections.get(section);
            boolean[] marks = quoted.get(section);
            StringBuilder rest = new StringBuilder();
            for (int i = 0; i < text.length(); i++) {
                rest.append(marks[i] ? '\n' : text.charAt(i));
            }
            for (String words : rest.toString().split("\n+")) {
                if (!words.isBlank()) {
                    all.add(section + ": " + words.trim());
                }
            }
        }
        return all;
    }
}
