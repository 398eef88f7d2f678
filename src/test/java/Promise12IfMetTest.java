/** Promise 12: ifMet. */
final class Promise12IfMetTest {
    public static void main(String[] args) {
        Due due = new Due("ifMet");
        bothWays(due);
        whateverIsLaid(due);
        asWhenTheyMeet(due);
        errors(due);
        due.end();
    }

    /** A length of 174, which is 6 with a pattern of 24. */
    private static void bothWays(Due due) {
        int[][] cases = {{0, 0, 6}, {6, 0, 12}, {7, 0, 11}, {18, 0, 0}, {0, 6, 0}, {0, 5, 1}, {0, 7, 1},
            {0, 23, 7}, {23, 0, 5}, {23, 23, 6}, {12, 6, 12}};
        for (int[] wanted : cases) {
            MeetingCarpets x = house();
            x.begin(0, wanted[0]);
            x.begin(1, wanted[1]);
            String before = Look.at(x);
            for (int step = 1; step <= 3; step++) {
                due.is("ifMet(" + step + ", 0)", x.ifMet(step, 0), wanted[2]);
                due.is("ifMet(" + step + ", 1)", x.ifMet(step, 1), wanted[2]);
            }
            due.same("look", Look.at(x), before);
        }
    }

    private static void whateverIsLaid(Due due) {
        MeetingCarpets x = house();
        x.lay(0);
        x.lay(0);
        x.begin(1, 4);
        due.is("ifMet(1, 0)", x.ifMet(1, 0), 2);
        due.is("ifMet(3, 1)", x.ifMet(3, 1), 2);
        x.clear();
        x.set(1, 20);
        due.is("ifMet(1, 0) with pieces that are too short", x.ifMet(1, 0), 2);
        due.is("ifMet(1, 1) with pieces that are too short", x.ifMet(1, 1), 2);
    }

    private static void asWhenTheyMeet(Due due) {
        for (int repeat = 2; repeat <= 60; repeat += 7) {
            MeetingCarpets x = house();
            x.set(0, repeat);
            x.set(1, 400);
            x.begin(0, repeat - 1);
            x.begin(1, repeat / 3);
            int told = x.ifMet(2, 0);
            due.is("ifMet(2, 1)", x.ifMet(2, 1), told);
            x.lay(1);
            x.lay(0);
            x.lay(0);
            x.lay(1);
            due.is("count(13)", x.count(13), told);
        }
    }

    private static void errors(Due due) {
        MeetingCarpets x = new MeetingCarpets();
        due.is("ifMet(1, 0) without steps", x.ifMet(1, 0), -1);
        x.build(10, 15);
        due.is("ifMet(0, 0) with 1 step", x.ifMet(0, 0), -1);
        due.is("ifMet(1, 0) with 1 step", x.ifMet(1, 0), -1);
        x.build(10, 15);
        String before = Look.at(x);
        due.is("ifMet(0, 0)", x.ifMet(0, 0), -1);
        due.is("ifMet(2, 0)", x.ifMet(2, 0), -1);
        due.is("ifMet(-1, 0)", x.ifMet(-1, 0), -1);
        due.is("ifMet(0, 2)", x.ifMet(0, 2), -1);
        due.is("ifMet(MAX, 7)", x.ifMet(Integer.MAX_VALUE, 7), -1);
        due.is("ifMet(1, 2)", x.ifMet(1, 2), -2);
        due.is("ifMet(1, -1)", x.ifMet(1, -1), -2);
        due.is("ifMet(1, MIN)", x.ifMet(1, Integer.MIN_VALUE), -2);
        due.same("look", Look.at(x), before);
    }

    private static MeetingCarpets house() {
        MeetingCarpets x = new MeetingCarpets();
        Texts.put(x, "10/15;20/20;25/40;11/33");
        x.read();
        return x;
    }
}
