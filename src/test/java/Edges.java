import java.util.ArrayList;
import java.util.List;
import java.util.Set;

/**
 * Runs of calls that are written as texts, each on a new object, with the answers that are due:
 *
 *     build(20, 20) = 0  6 x begin(0, 3)  lay(2) = NO_SUCH
 *
 * Between two calls stand two spaces or a new line. A call without an answer has to be no error; "6 x" makes a call six
 * times. Each call that has to change nothing (it is refused, or only asks) is checked to change nothing: with it and
 * without it, objects tell the same of themselves, their pads, slots and histories, and go on in the same way.
 * The same run is made on a PlainHouse, so that a wrong answer in a test is told from one of the program.
 */
final class Edges {
    private static final Set<String> ASKING = Set.of("step", "crew", "count", "ifMet", "bestBeginning", "ifLaid",
        "leastTrim", "fault");
    // A look at 20 steps is 192 calls more, and nothing is promised after the 512th.
    private static final int MOST_CALLS = 290;

    private final Due due;

    Edges(String test) {
        due = new Due(test);
    }

    void end() {
        due.end();
    }

    /** A sentence of the document, or what it asks, and a run of calls that shows whether it holds. */
    void run(String sentence, String text) {
        List<String> calls = new ArrayList<>();
        List<String> answers = new ArrayList<>();
        read(text, calls, answers);
        if (calls.isEmpty() || calls.size() > MOST_CALLS) {
            throw new IllegalArgumentException(sentence + ": " + calls.size() + " calls");
        }
        MeetingCarpets x = new MeetingCarpets();
        PlainHouse plain = new PlainHouse();
        String known = null;
        for (int i = 0; i < calls.size(); i++) {
            String call = calls.get(i);
            String told = sentence + ": call " + (i + 1) + ", " + call;
            int got = Calls.make(x, call);
            compare(told, got, answers.get(i));
            compare("the plain house: " + told, Calls.make(plain, call), answers.get(i));
            if (isError(got) || ASKING.contains(Calls.nameOf(call))) {
                String before = known != null ? known : Probe.allOf(calls.subList(0, i));
                known = Probe.allOf(calls.subList(0, i + 1));
                due.same(told + " changes something:", known, before);
            } else {
                known = null;
            }
        }
    }

    /** The same run for both crews: # stands for a crew, ~ for the other one. */
    void runOfEachCrew(String sentence, String text) {
        run(sentence + " (crew 0)", text.replace('#', '0').replace('~', '1'));
        run(sentence + " (crew 1)", text.replace('#', '1').replace('~', '0'));
    }

    private void compare(String told, int got, String answer) {
        if (answer.isEmpty()) {
            due.same(told, got >= 0 ? "no error" : Integer.toString(got), "no error");
        } else {
            due.is(told, got, numberOf(answer));
        }
    }

    private static boolean isError(int answer) {
        return answer <= MeetingCarpets.NO_SUCH && answer >= MeetingCarpets.NOT_POSSIBLE;
    }

    private static void read(String text, List<String> calls, List<String> answers) {
        for (String part : text.trim().split("\\s*\\n\\s*|\\s{2,}")) {
            int times = part.matches("\\d+ x .*") ? Integer.parseInt(part.substring(0, part.indexOf(' '))) : 1;
            String call = part.replaceFirst("^\\d+ x ", "");
            int sign = call.lastIndexOf(") = ");
            for (int i = 0; i < times; i++) {
                calls.add(sign < 0 ? call : call.substring(0, sign + 1));
                answers.add(sign < 0 ? "" : call.substring(sign + 4));
            }
        }
    }

    private static int numberOf(String answer) {
        switch (answer) {
            case "NO_SUCH": return -1;
            case "BAD_VALUE": return -2;
            case "BAD_TEXT": return -3;
            case "TOO_MANY": return -4;
            case "NOT_POSSIBLE": return -5;
            case "NONE": return -6;
            default: return Integer.parseInt(answer);
        }
    }
}
