/** Promise 18: fault. */
final class Promise18FaultTest {
    public static void main(String[] args) {
        Due due = new Due("fault");
        withoutFault(due);
        firstNumbers(due);
        laterNumbers(due);
        signs(due);
        endsTooEarly(due);
        allNumbers(due);
        nothingChanges(due);
        due.end();
    }

    private static void faultOf(Due due, String text, int want) {
        MeetingCarpets x = new MeetingCarpets();
        Texts.put(x, text);
        due.is("fault() of " + text, x.fault(), want);
    }

    private static void withoutFault(Due due) {
        String[] texts = {"10/15", "25/40", "2*10/15", "20*25/40", "9*19/39", "10/15;10/15", "20/20;20*20/20",
            "10*10/40", "10/15;2*11/16;3*12/17;19/29;20*25/30", "20*10/15;20*10/15;20*10/15;20*10/15;20*10/15;20*10/15",
            "10/15;10/15;10/15;10/15;10/15;10/15;10/15;10/15;10/15;10/15",
            "10/15;10/15;10/15;10/15;10/15;10/15;20*10/15;2*10/15;9*11/18"};
        for (String text : texts) {
            faultOf(due, text, -6);
        }
    }

    private static void firstNumbers(Due due) {
        faultOf(due, "0", 0);
        faultOf(due, "010/15", 0);
        faultOf(due, "02*10/15", 0);
        faultOf(due, "1*10/15", 1);
        faultOf(due, "1/15", 1);
        faultOf(due, "2/15", 1);
        faultOf(due, "9/15", 1);
        faultOf(due, "26/15", 1);
        faultOf(due, "30/15", 1);
        faultOf(due, "90*10/15", 1);
        faultOf(due, "21*10/15", 2);
        faultOf(due, "25*10/15", 2);
        faultOf(due, "100/15", 2);
        faultOf(due, "200*10/15", 2);
    }

    private static void laterNumbers(Due due) {
        faultOf(due, "2*0", 2);
        faultOf(due, "2*3", 2);
        faultOf(due, "2*9/15", 2);
        faultOf(due, "2*1/15", 3);
        faultOf(due, "2*2/15", 3);
        faultOf(due, "2*26/15", 3);
        faultOf(due, "2*100/15", 4);
        faultOf(due, "10/0", 3);
        faultOf(due, "10/5", 3);
        faultOf(due, "10/9", 3);
        faultOf(due, "10/14", 4);
        faultOf(due, "10/10", 4);
        faultOf(due, "10/41", 4);
        faultOf(due, "10/150", 5);
        faultOf(due, "10/400", 5);
        faultOf(due, "10/15;0", 6);
        faultOf(due, "10/15;1*", 7);
        faultOf(due, "10/15;26", 7);
        faultOf(due, "10/15;2*10/14", 12);
    }

    private static void signs(Due due) {
        faultOf(due, "/", 0);
        faultOf(due, "*", 0);
        faultOf(due, ";", 0);
        faultOf(due, "x", 0);
        faultOf(due, "10;", 2);
        faultOf(due, "10x", 2);
        faultOf(due, "10*10*10/15", 5);
        faultOf(due, "2*;", 2);
        faultOf(due, "2**", 2);
        faultOf(due, "2*10;", 4);
        faultOf(due, "10//", 3);
        faultOf(due, "10/*", 3);
        faultOf(due, "10/;", 3);
        faultOf(due, "10/1;", 4);
        faultOf(due, "10/15/", 5);
        faultOf(due, "10/15*", 5);
        faultOf(due, "10/15,10/15", 5);
        faultOf(due, "10/15;;", 6);
        faultOf(due, "10/15:10/15", 5);
        faultOf(due, "1:/15", 1);
        faultOf(due, "10/1:", 4);
    }

    private static void endsTooEarly(Due due) {
        String text = "12*25/40;2*10/15;";
        for (int length = 0; length <= text.length(); length++) {
            boolean isWhole = length == 8 || length == 16;
            faultOf(due, text.substring(0, length), isWhole ? -6 : length);
        }
        faultOf(due, "10/15;10/15;10/15;10/15;10/15;10/15;10/15;10/15;10/15;10/15;", 60);
        faultOf(due, "10/15;10/15;10/15;10/15;10/15;10/15;10/15;10/15;10/15;2*10/1", 60);
    }

    private static void allNumbers(Due due) {
        for (int number = 10; number <= 99; number++) {
            int second = number / 10 == 1 || number / 10 == 2 ? 1 : 0;
            faultOf(due, "2*" + number + "/15", number <= 25 ? -6 : number <= 29 ? 3 : 2 + second);
            faultOf(due, "10/" + number, number >= 15 && number <= 40 ? -6 : number < 50 ? 4 : 3);
            faultOf(due, number + "/15", number <= 25 ? -6 : 1);
            faultOf(due, number + "*10/15", number <= 20 ? -6 : number <= 25 ? 2 : 1);
        }
        for (int number = 1; number <= 9; number++) {
            faultOf(due, number + "*10/15", number >= 2 ? -6 : 1);
        }
    }

    private static void nothingChanges(Due due) {
        MeetingCarpets x = new MeetingCarpets();
        x.build(20, 20);
        Texts.put(x, "2*10/15");
        String before = Look.at(x);
        due.is("fault()", x.fault(), -6);
        due.is("fault() again", x.fault(), -6);
        due.same("look", Look.at(x), before);
        x.lay(0);
        due.is("fault() when a step is laid", x.fault(), -6);
    }
}
