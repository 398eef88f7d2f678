/** Promise 11: count. */
final class Promise11CountTest {
    public static void main(String[] args) {
        Due due = new Due("count");
        numbers(due);
        meetingNeedsBothCrews(due);
        inPhaseWithinSlack(due);
        lesserWay(due);
        due.end();
    }

    private static void numbers(Due due) {
        MeetingCarpets x = new MeetingCarpets();
        Texts.put(x, "4*20/40");
        x.read();
        x.set(2, 4);
        x.begin(0, 3);
        x.begin(1, 5);
        Texts.put(x, "10/1");
        countsAre(due, x, 24, 120, 4, 4, 0, 240, 0, 0, 0, 0, 0, 0, -6, -6, -6, 4, 4);
        x.lay(0);
        countsAre(due, x, 24, 120, 4, 4, 1, 240, 60, 120, 3, 57, 0, 1, -6, -6, -6, 4, 5);
        x.lay(1);
        countsAre(due, x, 24, 120, 4, 4, 2, 240, 120, 240, 22, 98, 0, 2, -6, -6, -6, 4, 6);
        x.lay(0);
        countsAre(due, x, 24, 120, 4, 4, 3, 240, 180, 360, 94, 86, 1, 3, -6, -6, -6, 4, 6);
        x.lay(1);
        countsAre(due, x, 24, 120, 4, 4, 4, 240, 240, 480, 142, 98, 2, 4, 2, 2, 1, 4, 6);
        String before = Look.at(x);
        due.is("count(12)", x.count(12), 2);
        due.is("count(-1)", x.count(-1), -2);
        due.is("count(17)", x.count(17), -2);
        due.is("count(MIN)", x.count(Integer.MIN_VALUE), -2);
        due.is("count(MAX)", x.count(Integer.MAX_VALUE), -2);
        due.same("look", Look.at(x), before);
        x.takeUp(0);
        countsAre(due, x, 24, 120, 4, 4, 3, 240, 180, 480, 202, 98, 2, 3, -6, -6, -6, 4, 6);
        x.wipe();
        due.is("count(15)", x.count(15), 0);
    }

    private static void countsAre(Due due, MeetingCarpets x, int... wants) {
        for (int what = 0; what < wants.length; what++) {
            due.is("count(" + what + ")", x.count(what), wants[what]);
        }
    }

    private static void meetingNeedsBothCrews(Due due) {
        for (int crew = 0; crew < 2; crew++) {
            MeetingCarpets x = new MeetingCarpets();
            x.build(20, 20);
            x.build(20, 20);
            x.lay(crew);
            x.lay(crew);
            due.is("count(4)", x.count(4), 2);
            for (int what = 12; what <= 14; what++) {
                due.is("count(" + what + ") of one crew", x.count(what), -6);
            }
            x.takeUp(crew);
            x.lay(1 - crew);
            due.is("count(12) of both", x.count(12), 1);
            due.is("count(13) of both", x.count(13), 8);
            due.is("count(14) of both", x.count(14), 0);
        }
    }

    private static void inPhaseWithinSlack(Due due) {
        MeetingCarpets x = new MeetingCarpets();
        x.build(20, 20);
        x.build(20, 20);
        x.lay(0);
        x.lay(1);
        x.set(2, 7);
        due.is("count(14): 8 with a slack of 7", x.count(14), 0);
        x.set(2, 8);
        due.is("count(14): 8 with a slack of 8", x.count(14), 1);
        x.set(2, 9);
        due.is("count(14): 8 with a slack of 9", x.count(14), 1);
        x.clear();
        x.set(2, 0);
        x.begin(0, 16);
        x.lay(0);
        x.lay(1);
        due.is("count(13)", x.count(13), 0);
        due.is("count(14): 0 with no slack", x.count(14), 1);
    }

    /** Two steps of 80 together, and a pattern of 24: 8 and the beginning of the crew 0. */
    private static void lesserWay(Due due) {
        int[] differences = {8, 9, 10, 11, 12, 11, 10, 9, 8, 7, 6, 5, 4, 3, 2, 1, 0, 1, 2, 3, 4, 5, 6, 7};
        for (int place = 0; place < differences.length; place++) {
            MeetingCarpets x = new MeetingCarpets();
            x.build(20, 20);
            x.build(20, 20);
            x.begin(0, place);
            x.lay(0);
            x.lay(1);
            due.is("count(13) with " + place, x.count(13), differences[place]);
        }
    }
}
