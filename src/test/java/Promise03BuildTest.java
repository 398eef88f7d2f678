/** Promise 3: build. */
final class Promise03BuildTest {
    public static void main(String[] args) {
        Due due = new Due("build");
        ranges(due);
        twentySteps(due);
        notAboveCarpet(due);
        due.end();
    }

    private static void ranges(Due due) {
        MeetingCarpets x = new MeetingCarpets();
        due.is("build(10, 15)", x.build(10, 15), 0);
        due.is("build(25, 40)", x.build(25, 40), 1);
        due.is("build(10, 40)", x.build(10, 40), 2);
        due.is("step(0, 0)", x.step(0, 0), 10);
        due.is("step(0, 1)", x.step(0, 1), 15);
        due.is("step(1, 0)", x.step(1, 0), 25);
        due.is("step(1, 1)", x.step(1, 1), 40);
        due.is("step(2, 3)", x.step(2, 3), 90);
        due.is("count(3)", x.count(3), 3);
        due.is("count(16)", x.count(16), 3);
        String before = Look.at(x);
        due.is("build(9, 15)", x.build(9, 15), -2);
        due.is("build(26, 15)", x.build(26, 15), -2);
        due.is("build(10, 14)", x.build(10, 14), -2);
        due.is("build(10, 41)", x.build(10, 41), -2);
        due.is("build(MIN, 15)", x.build(Integer.MIN_VALUE, 15), -2);
        due.is("build(10, MAX)", x.build(10, Integer.MAX_VALUE), -2);
        due.same("look", Look.at(x), before);
    }

    private static void twentySteps(Due due) {
        MeetingCarpets x = new MeetingCarpets();
        for (int step = 0; step < 20; step++) {
            due.is("build " + step, x.build(10, 15 + step), step);
        }
        String before = Look.at(x);
        due.is("build the 21st", x.build(10, 15), -4);
        due.is("build a bad 21st", x.build(10, 41), -2);
        due.same("look", Look.at(x), before);
        x.lay(0);
        due.is("build the 21st when one is laid", x.build(10, 15), -5);
    }

    private static void notAboveCarpet(Due due) {
        for (int crew = 0; crew < 2; crew++) {
            MeetingCarpets x = new MeetingCarpets();
            x.build(10, 15);
            x.lay(crew);
            String before = Look.at(x);
            due.is("build(10, 15)", x.build(10, 15), -5);
            due.is("build(9, 15)", x.build(9, 15), -2);
            due.same("look", Look.at(x), before);
            x.takeUp(crew);
            due.is("build(10, 16) when it is taken up", x.build(10, 16), 1);
        }
    }
}
