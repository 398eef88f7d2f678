/** Promise 5: begin. */
final class Promise05BeginTest {
    public static void main(String[] args) {
        Due due = new Due("begin");
        ranges(due);
        onlyBeforeTheCrewLays(due);
        phases(due);
        due.end();
    }

    private static void ranges(Due due) {
        for (int crew = 0; crew < 2; crew++) {
            MeetingCarpets x = new MeetingCarpets();
            due.is("begin(crew, 23)", x.begin(crew, 23), 0);
            due.is("begin(crew, 5)", x.begin(crew, 5), 23);
            due.is("begin(crew, 5)", x.begin(crew, 5), 5);
            due.is("crew(crew, 0)", x.crew(crew, 0), 5);
            due.is("the other's beginning", x.crew(1 - crew, 0), 0);
            due.is("count(16)", x.count(16), 3);
            String before = Look.at(x);
            due.is("begin(crew, 24)", x.begin(crew, 24), -2);
            due.is("begin(crew, -1)", x.begin(crew, -1), -2);
            due.is("begin(crew, MIN)", x.begin(crew, Integer.MIN_VALUE), -2);
            due.is("begin(-1, 0)", x.begin(-1, 0), -1);
            due.is("begin(2, 0)", x.begin(2, 0), -1);
            due.is("begin(2, 24)", x.begin(2, 24), -1);
            due.same("look", Look.at(x), before);
            due.is("begin(crew, 0)", x.begin(crew, 0), 5);
            x.set(0, 60);
            due.is("begin(crew, 59)", x.begin(crew, 59), 0);
            due.is("begin(crew, 60)", x.begin(crew, 60), -2);
        }
    }

    private static void onlyBeforeTheCrewLays(Due due) {
        for (int crew = 0; crew < 2; crew++) {
            MeetingCarpets x = new MeetingCarpets();
            x.build(20, 20);
            x.build(20, 20);
            x.lay(crew);
            String before = Look.at(x);
            due.is("begin(crew, 3)", x.begin(crew, 3), -5);
            due.is("begin(crew, 0)", x.begin(crew, 0), -5);
            due.is("begin(crew, 24)", x.begin(crew, 24), -2);
            due.same("look", Look.at(x), before);
            due.is("begin(the other, 3)", x.begin(1 - crew, 3), 0);
            x.takeUp(crew);
            due.is("begin(crew, 4) when it is taken up", x.begin(crew, 4), 0);
        }
    }

    private static void phases(Due due) {
        MeetingCarpets x = new MeetingCarpets();
        x.build(20, 20);
        x.build(20, 25);
        x.begin(0, 7);
        x.begin(1, 7);
        due.is("lay(0)", x.lay(0), 7);
        due.is("lay(1)", x.lay(1), 10);
        due.is("step(1, 6)", x.step(1, 6), 7);
    }
}
