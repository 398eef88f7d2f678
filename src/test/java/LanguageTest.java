import java.io.IOException;
import java.nio.charset.StandardCharsets;
import java.nio.file.Files;
import java.nio.file.Path;
import java.util.ArrayList;
import java.util.List;
import java.util.regex.Matcher;
import java.util.regex.Pattern;

/** Those rules of ../shared/LANGUAGE.md that can be read off the lines of the program. */
final class LanguageTest {
    private static final Path PROGRAM = Path.of("src/main/java/MeetingCarpets.java");
    /** Words and signs that no rule leaves room for, or that this program has no need of. */
    private static final String[] FORBIDDEN = {"\\bthrows?\\b", "\\btry\\b", "\\bcatch\\b", "\\bfinally\\b",
        "\\bsynchronized\\b", "\\bassert\\b", "\\bimport\\b", "\\bpackage\\b", "\\bprotected\\b", "->", "::", "@",
        "\\bObject\\b", "\\bMap\\b", "\\bSet\\b", "\\bSystem\\.(?!arraycopy)", "\\bThread\\b", "\\bvar\\b",
        "\\bjava\\.", "\\bhashCode\\b", "\\btoString\\b", "Exact\\(", "\\bstatic \\{", "\\bwhile\\b"};

    public static void main(String[] args) throws IOException {
        Due due = new Due("language");
        String text = Files.readString(PROGRAM, StandardCharsets.US_ASCII);
        List<String> lines = withoutComments(text);
        for (String forbidden : FORBIDDEN) {
            none(due, "lines with " + forbidden, linesWith(lines, forbidden));
        }
        none(due, "static fields that can change", linesWith(lines, "\\bstatic (?!final\\b)[\\w\\[\\]]+ \\w+( =|;)"));
        none(due, "classes inside that are not static", linesWith(lines, "^ +(?!.*\\bstatic\\b).*\\bclass \\w+"));
        none(due, "more than 7 parameters", linesWith(lines, "\\w+ \\w+\\(([^(),]+,){7,}[^()]*\\) \\{"));
        none(due, "methods of more than 60 lines", longMethods(lines));
        due.is("more than 12 classes", linesWith(lines, "\\bclass \\w+").size() > 12 ? 1 : 0, 0);
        due.end();
    }

    private static void none(Due due, String told, List<String> found) {
        due.same(told, found.toString(), "[]");
    }

    private static List<String> withoutComments(String text) {
        List<String> lines = new ArrayList<>();
        for (String line : text.split("\n")) {
            String trimmed = line.trim();
            boolean isComment = trimmed.startsWith("//") || trimmed.startsWith("/**") || trimmed.startsWith("*");
            lines.add(isComment ? "" : line.replaceAll("//.*", ""));
        }
        return lines;
    }

    private static List<String> linesWith(List<String> lines, String pattern) {
        Pattern wanted = Pattern.compile(pattern);
        List<String> found = new ArrayList<>();
        for (int i = 0; i < lines.size(); i++) {
            if (wanted.matcher(lines.get(i)).find()) {
                found.add((i + 1) + ": " + lines.get(i).trim());
            }
        }
        return found;
    }

    private static List<String> longMethods(List<String> lines) {
        Pattern head = Pattern.compile("^( +)(?:public|private)[^=;]*\\) \\{$");
        List<String> found = new ArrayList<>();
        for (int i = 0; i < lines.size(); i++) {
            Matcher method = head.matcher(lines.get(i));
            if (method.matches()) {
                int end = lines.subList(i, lines.size()).indexOf(method.group(1) + "}");
                if (end < 0 || end > 60) {
                    found.add((i + 1) + ": " + lines.get(i).trim());
                }
            }
        }
        return found;
    }
}
