/** The section "Texts", and promise 18, fault: which characters can stand where, and which texts end too early. */
final class EdgesOfTextsTest {
    private static final int FIRST_CODE = 33;
    private static final int LAST_CODE = 126;

    private final Due due = new Due("edges of texts");

    public static void main(String[] args) {
        EdgesOfTextsTest test = new EdgesOfTextsTest();
        for (String before : new String[] {"", "10/15;", "2*25/40;", "20*10/15;25/40;"}) {
            test.firstNumber(before);
            test.riser(before);
            test.tread(before);
            test.behindAFlight(before);
        }
        test.aFaultStays();
        test.fullPads();
        test.due.end();
    }

    /** Behind a text, each of the 94 characters is tried: those that can stand there, and no others. */
    private void next(String text, String allowed) {
        boolean isWhole = allowed.equals(";");
        faultOf(text, isWhole ? MeetingCarpets.NONE : text.length());
        for (int code = FIRST_CODE; code <= LAST_CODE; code++) {
            String longer = text + (char) code;
            if (allowed.indexOf(code) < 0) {
                faultOf(longer, text.length());
                faultOf(longer + "5", text.length());
            } else {
                int fault = faultOf(longer);
                boolean stands = fault == longer.length() || fault == MeetingCarpets.NONE;
                due.same("fault() of " + longer, stands ? "stands" : "fault " + fault, "stands");
            }
        }
    }

    private void faultOf(String text, int want) {
        due.is("fault() of " + text, faultOf(text), want);
    }

    private static int faultOf(String text) {
        MeetingCarpets x = new MeetingCarpets();
        Texts.put(x, text);
        return x.fault();
    }

    private void firstNumber(String before) {
        next(before, "123456789");
        next(before + "1", "0123456789");
        next(before + "2", "012345*");
        for (int number = 3; number <= 9; number++) {
            next(before + number, "*");
        }
        for (int number = 10; number <= 25; number++) {
            next(before + number, number <= 20 ? "*/" : "/");
        }
    }

    private void riser(String before) {
        for (String alike : new String[] {"2*", "9*", "10*", "20*"}) {
            next(before + alike, "12");
            next(before + alike + "1", "0123456789");
            next(before + alike + "2", "012345");
            for (int riser = 10; riser <= 25; riser++) {
                next(before + alike + riser, "/");
            }
        }
    }

    private void tread(String before) {
        for (String riser : new String[] {"10/", "25/", "2*10/", "20*25/"}) {
            next(before + riser, "1234");
            next(before + riser + "1", "56789");
            next(before + riser + "2", "0123456789");
            next(before + riser + "3", "0123456789");
            next(before + riser + "4", "0");
        }
    }

    private void behindAFlight(String before) {
        for (int tread = 15; tread <= 40; tread++) {
            next(before + "10/" + tread, ";");
            next(before + "2*25/" + tread, ";");
        }
    }

    /** What stands behind the first character that cannot stand does not matter. */
    private void aFaultStays() {
        faultOf("010/15;10/15", 0);
        faultOf("10/14;x", 4);
        faultOf("1*10/15;1*10/15", 1);
        faultOf("21*10/15;x", 2);
        faultOf("10/15;;10/15", 6);
        faultOf("10/15;26/15;x", 7);
        faultOf(";10/15", 0);
    }

    private void fullPads() {
        String oneByOne = "10/15;10/15;10/15;10/15;10/15;10/15;10/15;10/15;10/15;";
        // 54 characters and a flight of 5: one character is free.
        faultOf(oneByOne + "10/15", MeetingCarpets.NONE);
        faultOf(oneByOne + "10/15;", 60);
        faultOf(oneByOne + "10/15x", 59);
        faultOf(oneByOne + "2*10/1", 60);
        faultOf(oneByOne + "2*10/0", 59);
        faultOf(oneByOne + "25/40;", 60);
        faultOf("20*10/15;20*10/15;20*10/15;20*10/15;20*10/15;20*10/15;20*10/", 60);
        faultOf("2*10/15;2*10/15;10*10/15;10/15;10/15;10/15;10/15;10/15;10/15", MeetingCarpets.NONE);
        faultOf("2*10/15;2*10/15;10*10/15;10/15;10/15;10/15;10/15;10/15;10/14", 59);
        faultOf("x*10/15;2*10/15;10*10/15;10/15;10/15;10/15;10/15;10/15;10/15", 0);
        faultOf("/".repeat(60), 0);
        faultOf("1".repeat(60), 2);
    }
}
