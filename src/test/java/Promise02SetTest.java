/** Promise 2: set. */
final class Promise02SetTest {
    private static final int[] LEAST = {2, 20, 0};
    private static final int[] MOST = {60, 400, 9};
    private static final int[] FIRST = {24, 120, 0};

    public static void main(String[] args) {
        Due due = new Due("set");
        ranges(due);
        afterAPieceIsTaken(due);
        beginningsStayBelowRepeat(due);
        due.end();
    }

    private static void ranges(Due due) {
        for (int setting = 0; setting < 3; setting++) {
            MeetingCarpets x = new MeetingCarpets();
            due.is("set to the least", x.set(setting, LEAST[setting]), FIRST[setting]);
            due.is("set to the most", x.set(setting, MOST[setting]), LEAST[setting]);
            due.is("set to the same", x.set(setting, MOST[setting]), MOST[setting]);
            due.is("changes to undo", x.count(16), 3);
            String before = Look.at(x);
            due.is("set below", x.set(setting, LEAST[setting] - 1), -2);
            due.is("set above", x.set(setting, MOST[setting] + 1), -2);
            due.is("set to the least int", x.set(setting, Integer.MIN_VALUE), -2);
            due.is("set to the greatest int", x.set(setting, Integer.MAX_VALUE), -2);
            due.same("look", Look.at(x), before);
            due.is("count(setting)", x.count(setting), MOST[setting]);
        }
        MeetingCarpets x = new MeetingCarpets();
        String before = Look.at(x);
        due.is("set(-1, 5)", x.set(-1, 5), -2);
        due.is("set(3, 5)", x.set(3, 5), -2);
        due.is("set(3, 24)", x.set(3, 24), -2);
        due.is("set(MAX, 24)", x.set(Integer.MAX_VALUE, 24), -2);
        due.same("look", Look.at(x), before);
    }

    private static void afterAPieceIsTaken(Due due) {
        for (int crew = 0; crew < 2; crew++) {
            MeetingCarpets x = new MeetingCarpets();
            x.build(20, 20);
            x.build(20, 20);
            x.lay(crew);
            refused(due, x);
            x.takeUp(crew);
            refused(due, x);
            x.clear();
            due.is("set(0, 25) after clear", x.set(0, 25), 24);
            due.is("set(1, 100) after clear", x.set(1, 100), 120);
        }
    }

    private static void refused(Due due, MeetingCarpets x) {
        String before = Look.at(x);
        due.is("set(0, 25)", x.set(0, 25), -5);
        due.is("set(0, 24), the same", x.set(0, 24), -5);
        due.is("set(1, 100)", x.set(1, 100), -5);
        due.is("set(0, 61)", x.set(0, 61), -2);
        due.is("set(1, 19)", x.set(1, 19), -2);
        due.same("look", Look.at(x), before);
        due.is("set(2, 3)", x.set(2, 3), 0);
        due.is("set(2, 0)", x.set(2, 0), 3);
    }

    private static void beginningsStayBelowRepeat(Due due) {
        for (int crew = 0; crew < 2; crew++) {
            MeetingCarpets x = new MeetingCarpets();
            x.begin(crew, 10);
            String before = Look.at(x);
            due.is("set(0, 10)", x.set(0, 10), -5);
            due.is("set(0, 2)", x.set(0, 2), -5);
            due.is("set(0, 1)", x.set(0, 1), -2);
            due.same("look", Look.at(x), before);
            due.is("set(0, 11)", x.set(0, 11), 24);
            due.is("set(1, 20)", x.set(1, 20), 120);
        }
    }
}
