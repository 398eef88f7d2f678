import java.io.IOException;
import java.lang.reflect.Method;
import java.lang.reflect.Modifier;
import java.nio.charset.StandardCharsets;
import java.nio.file.Files;
import java.nio.file.Path;
import java.util.List;
import java.util.Set;
import java.util.TreeSet;
import java.util.regex.Matcher;
import java.util.regex.Pattern;

/** README.md: its calls answer what it says there, and its tables name each method and each code once. */
final class ReadmeTest {
    private static final Path README = Path.of("README.md");
    private static final String NEW_OBJECT = "MeetingCarpets house = new MeetingCarpets();";
    private static final Pattern CALL = Pattern.compile("^house\\.(.+\\)); +// (-?\\d+|[A-Z_]+)\\b.*");
    private static final Pattern METHOD_ROW = Pattern.compile("^\\| `(\\w+)\\(.*\\)` \\|.*");
    private static final Pattern CODE_ROW = Pattern.compile("^\\| `([A-Z_]+)` \\| (-\\d+) \\|.*");

    private final Due due = new Due("README.md");

    public static void main(String[] args) throws IOException {
        List<String> lines = Files.readAllLines(README, StandardCharsets.US_ASCII);
        ReadmeTest test = new ReadmeTest();
        test.callsAnswerAsTold(lines);
        test.methodsAreTold(lines);
        test.codesAreTold(lines);
        test.due.end();
    }

    private void callsAnswerAsTold(List<String> lines) {
        MeetingCarpets house = null;
        int made = 0;
        for (String line : lines) {
            if (line.equals(NEW_OBJECT)) {
                house = new MeetingCarpets();
            }
            if (line.startsWith("house.")) {
                Matcher call = CALL.matcher(line);
                due.is("a call with an answer, " + line, call.matches() && house != null ? 1 : 0, 1);
                due.is(line, Calls.make(house, plain(call.group(1))), numberOf(call.group(2)));
                made++;
            }
        }
        due.is("README.md has calls", made > 0 ? 1 : 0, 1);
    }

    /** As Calls reads it: a constant's number, and a part of a text without the function that makes it a number. */
    private static String plain(String call) {
        String numbers = call.replace("MeetingCarpets.REPEAT", "0");
        return numbers.replaceFirst("^put\\(characters\\((.*)\\)\\)$", "put($1)");
    }

    private void methodsAreTold(List<String> lines) {
        Set<String> methods = new TreeSet<>();
        for (Method method : MeetingCarpets.class.getDeclaredMethods()) {
            if (Modifier.isPublic(method.getModifiers())) {
                methods.add(method.getName());
            }
        }
        due.same("the methods", namesIn(lines, METHOD_ROW).toString(), methods.toString());
    }

    private void codesAreTold(List<String> lines) {
        Set<String> codes = Set.of("NO_SUCH", "BAD_VALUE", "BAD_TEXT", "TOO_MANY", "NOT_POSSIBLE", "NONE");
        due.same("the codes", namesIn(lines, CODE_ROW).toString(), new TreeSet<>(codes).toString());
        for (String line : lines) {
            Matcher row = CODE_ROW.matcher(line);
            if (row.matches()) {
                due.is(row.group(1), Integer.parseInt(row.group(2)), numberOf(row.group(1)));
            }
        }
    }

    private Set<String> namesIn(List<String> lines, Pattern pattern) {
        Set<String> names = new TreeSet<>();
        for (String line : lines) {
            Matcher row = pattern.matcher(line);
            if (row.matches()) {
                due.is(row.group(1) + " is told twice", names.add(row.group(1)) ? 0 : 1, 0);
            }
        }
        return names;
    }

    private static int numberOf(String answer) {
        try {
            return answer.matches("[A-Z_]+") ? MeetingCarpets.class.getField(answer).getInt(null)
                : Integer.parseInt(answer);
        } catch (ReflectiveOperationException e) {
            throw new IllegalArgumentException("no code: " + answer, e);
        }
    }
}
