import java.nio.file.Files;
import java.nio.file.Path;
import java.util.ArrayList;
import java.util.LinkedHashMap;
import java.util.List;
import java.util.Map;
import java.util.regex.Matcher;
import java.util.regex.Pattern;

/** ../shared/DOC.md by its parts, and which of its words a test has quoted. */
final class Document {
    static final Path PATH = Path.of("../shared/DOC.md");

    private final Map<String, String> parts = new LinkedHashMap<>();
    private final Map<String, boolean[]> quoted = new LinkedHashMap<>();

    Document() throws Exception {
        String all = Files.readString(PATH).replace("```text", " ").replace("```", " ");
        add("Use", between(all, "An object is used", "## The public face", true));
        for (int i = 1; i <= 3; i++) {
            String end = i < 3 ? "==== " + (i + 1) + "." : "## Promise 1:";
            add("Terms " + i, between(all, "==== " + i + ".", end, false));
        }
        Matcher m = Pattern.compile("(?m)^## Promise (\\d+): .*\\n+`[^`]*`: (.*)$").matcher(all);
        while (m.find()) {
            add("Promise " + m.group(1), m.group(2));
        }
    }

    private static String between(String all, String from, String to, boolean withFrom) {
        int start = all.indexOf(from) + (withFrom ? 0 : from.length());
        return all.substring(start, all.indexOf(to, start));
    }

    private void add(String name, String text) {
        String plain = plain(text);
        parts.put(name, plain);
        quoted.put(name, new boolean[plain.length()]);
    }

    private static String plain(String text) {
        return text.replaceAll("\\s+", " ").trim();
    }

    int partCount() {
        return parts.size();
    }

    /** Why the words can't be quoted; null if they can: they stand in that part, and there but once. */
    String quote(String part, String words) {
        String text = parts.get(part);
        if (text == null) {
            return "there is no such part";
        }
        int at = text.indexOf(words);
        if (at < 0) {
            return "the words don't stand there";
        }
        if (text.indexOf(words, at + 1) >= 0) {
            return "the words stand there twice";
        }
        java.util.Arrays.fill(quoted.get(part), at, at + words.length(), true);
        return null;
    }

    /** Each part's words that no test has quoted. */
    List<String> notQuoted() {
        List<String> all = new ArrayList<>();
        for (String part : parts.keySet()) {
            Matcher word = Pattern.compile("[A-Za-z0-9']+").matcher(parts.get(part));
            while (word.find()) {
                for (int i = word.start(); i < word.end(); i++) {
                    if (!quoted.get(part)[i]) {
                        all.add(part + ": '" + word.group() + "' at " + word.start());
                        break;
                    }
                }
            }
        }
        return all;
    }
}
