/** Promise 13: bestBeginning. */
final class Promise13BestBeginningTest {
    public static void main(String[] args) {
        Due due = new Due("bestBeginning");
        known(due);
        meetsWithoutDifference(due);
        whateverIsLaid(due);
        errors(due);
        due.end();
    }

    /** A length of 174, which is 6 with a pattern of 24. */
    private static void known(Due due) {
        MeetingCarpets x = house();
        due.is("bestBeginning(0)", x.bestBeginning(0), 18);
        due.is("bestBeginning(1)", x.bestBeginning(1), 6);
        x.begin(0, 20);
        x.begin(1, 5);
        String before = Look.at(x);
        due.is("bestBeginning(0)", x.bestBeginning(0), 23);
        due.is("bestBeginning(1)", x.bestBeginning(1), 2);
        due.same("look", Look.at(x), before);
        x.begin(1, 6);
        due.is("bestBeginning(0)", x.bestBeginning(0), 0);
    }

    private static void meetsWithoutDifference(Due due) {
        for (int repeat = 2; repeat <= 60; repeat++) {
            for (int crew = 0; crew < 2; crew++) {
                MeetingCarpets x = house();
                x.set(0, repeat);
                x.begin(1 - crew, repeat * 2 / 3);
                int best = x.bestBeginning(crew);
                due.is("begin(crew, best)", x.begin(crew, best), 0);
                due.is("ifMet(1, 0)", x.ifMet(1, 0), 0);
            }
        }
    }

    private static void whateverIsLaid(Due due) {
        MeetingCarpets x = house();
        x.begin(1, 1);
        x.lay(0);
        x.lay(1);
        due.is("bestBeginning(0)", x.bestBeginning(0), 19);
        due.is("bestBeginning(1)", x.bestBeginning(1), 6);
    }

    private static void errors(Due due) {
        MeetingCarpets x = new MeetingCarpets();
        due.is("bestBeginning(0) without steps", x.bestBeginning(0), -5);
        due.is("bestBeginning(2) without steps", x.bestBeginning(2), -1);
        x.build(10, 15);
        due.is("bestBeginning(0) with 1 step", x.bestBeginning(0), -5);
        due.is("bestBeginning(1) with 1 step", x.bestBeginning(1), -5);
        due.is("bestBeginning(-1) with 1 step", x.bestBeginning(-1), -1);
        x.build(10, 15);
        due.is("bestBeginning(0) with 2 steps", x.bestBeginning(0), 22);
        due.is("bestBeginning(1) with 2 steps", x.bestBeginning(1), 2);
        due.is("bestBeginning(2)", x.bestBeginning(2), -1);
        due.is("bestBeginning(-1)", x.bestBeginning(-1), -1);
    }

    private static MeetingCarpets house() {
        MeetingCarpets x = new MeetingCarpets();
        Texts.put(x, "10/15;20/20;25/40;11/33");
        x.read();
        return x;
    }
}
