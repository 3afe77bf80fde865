import java.nio.file.Files;
import java.nio.file.Path;
import java.util.ArrayList;
import java.util.List;
import java.util.Set;
import java.util.TreeSet;
import java.util.regex.Matcher;
import java.util.regex.Pattern;

/** What of ../shared/LANGUAGE.md can be seen from the source alone. */
public final class LanguageTest {
    private static final Set<String> FACE = Set.of("feed", "end", "book", "join", "fault", "named", "storm", "leave",
        "close", "undo", "member", "field", "hazard", "now", "mine", "then", "club", "set", "worst", "rate", "reserve",
        "without", "near", "rank", "alone", "look");
    private static final Pattern METHOD = Pattern.compile(
        "^( +)((?:(?:public|private|static|final) )*)([A-Za-z\\[\\]]+ )?([A-Za-z]+)\\(([^)]*)\\) \\{$");

    public static void main(String[] args) throws Exception {
        String source = Files.readString(Path.of("src/main/java/HailClub.java"));
        String code = source.replaceAll("(?s)/\\*.*?\\*/", "").replaceAll("//[^\n]*", "")
            .replaceAll("\"[^\"\n]*\"", "\"\"").replaceAll("'(\\\\.|[^'])'", "' '");
        nothingForbidden(code);
        theFaceAlone(code);
        classesAndMethods(code);
        Check.close("LanguageTest");
    }

    private static int count(String regex, String code) {
        Matcher m = Pattern.compile(regex).matcher(code);
        int count = 0;
        while (m.find()) {
            count++;
        }
        return count;
    }

    private static void nothingForbidden(String code) {
        String[] never = {"\\bthrows?\\b", "\\btry\\b", "\\bcatch\\b", "\\bsynchronized\\b", "\\bassert\\b", "\\bimport\\b",
            "\\bpackage\\b", "->", "::", "@", "\\bprotected\\b", "\\bvolatile\\b", "\\bnative\\b", "\\bThread\\b",
            "\\bRandom\\b", "currentTimeMillis", "nanoTime", "Exact\\b", "\\bequals\\(", "\\bhashCode\\(", "\\btoString\\(",
            "\\bObject\\b", "\\bHashMap\\b", "\\bvar\\b", "\"\" \\+", "\\+ \"\""};
        for (String regex : never) {
            Check.due("uses of " + regex, count(regex, code), 0);
        }
    }

    private static void theFaceAlone(String code) {
        Set<String> found = new TreeSet<>();
        Matcher m = Pattern.compile("\\n    public (?:static final )?[a-z]+ ([a-zA-Z]+)[( ]").matcher(code);
        while (m.find()) {
            found.add(m.group(1));
        }
        Set<String> want = new TreeSet<>(FACE);
        want.add("NONE");
        Check.due("public members " + found, found.equals(want), true);
        Check.due("members of HailClub that are neither public nor private",
            count("\\n    (?!public |private |\\}|\\{| )[^\\n]", code), 0);
        Check.due("classes inside that are not private and static",
            count("\\n    (?!private static final class )[^\\n]*\\bclass ", code), 0);
    }

    private static void classesAndMethods(String code) {
        Check.due("twelve classes at most", count("\\bclass ", code) <= 12, true);
        String[] lines = code.split("\n");
        List<String> long_ = new ArrayList<>();
        for (int i = 0; i < lines.length; i++) {
            Matcher m = METHOD.matcher(lines[i]);
            if (!m.matches() || m.group(4).matches("if|for|while|switch")) {
                continue;
            }
            int end = i;
            while (end < lines.length && !lines[end].equals(m.group(1) + "}")) {
                end++;
            }
            if (end - i + 1 > 60) {
                long_.add(m.group(4));
            }
            int parameters = m.group(5).isBlank() ? 0 : m.group(5).split(",").length;
            Check.due("parameters of " + m.group(4), parameters <= 7, true);
            if (!m.group(2).contains("public")) {
                Check.due(m.group(4) + " is no name of the face", FACE.contains(m.group(4)), false);
            }
        }
        Check.due("methods too long " + long_, long_.size(), 0);
    }
}
