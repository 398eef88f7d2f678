/** Promise 15: leastTrim. */
final class Promise15LeastTrimTest {
    public static void main(String[] args) {
        Due due = new Due("leastTrim");
        known(due);
        ofSeveralTheLowest(due);
        notAll(due);
        searched(due);
        none(due);
        due.end();
    }

    /** ifLaid tells 187, 142, 142, 142, 195 of these (see Promise14IfLaidTest). */
    private static void known(Due due) {
        MeetingCarpets x = new MeetingCarpets();
        Texts.put(x, "4*20/40");
        x.read();
        x.begin(0, 3);
        x.begin(1, 5);
        x.lay(0);
        x.lay(1);
        String before = Look.at(x);
        due.is("leastTrim()", x.leastTrim(), 1);
        due.same("look", Look.at(x), before);
    }

    private static void ofSeveralTheLowest(Due due) {
        MeetingCarpets x = new MeetingCarpets();
        x.build(10, 15);
        due.is("leastTrim() of one step, where it does not matter", x.leastTrim(), 0);
        x.begin(1, 23);
        due.is("leastTrim() of one step, better from below", x.leastTrim(), 1);
        x.begin(0, 2);
        due.is("leastTrim() of one step, better from above", x.leastTrim(), 0);
        x.begin(0, 1);
        due.is("leastTrim() of one step, where it does not matter again", x.leastTrim(), 0);
    }

    /** Pieces of 60 for steps of 60: each crew can lay its first one only. */
    private static void notAll(Due due) {
        MeetingCarpets x = new MeetingCarpets();
        x.build(20, 40);
        x.build(20, 40);
        x.set(1, 60);
        x.begin(1, 12);
        due.is("ifLaid(0)", x.ifLaid(0), -6);
        due.is("ifLaid(1)", x.ifLaid(1), 0);
        due.is("ifLaid(2)", x.ifLaid(2), -6);
        due.is("leastTrim()", x.leastTrim(), 1);
    }

    private static void searched(Due due) {
        for (int roll = 60; roll <= 400; roll += 17) {
            MeetingCarpets x = new MeetingCarpets();
            Texts.put(x, "10/15;3*20/20;25/40;2*11/33");
            x.read();
            x.set(1, roll);
            x.begin(0, roll % 24);
            x.begin(1, roll % 11);
            int best = -6;
            for (int step = 7; step >= 0; step--) {
                int trims = x.ifLaid(step);
                if (trims >= 0 && (best < 0 || trims <= x.ifLaid(best))) {
                    best = step;
                }
            }
            due.is("leastTrim() with pieces of " + roll, x.leastTrim(), best);
        }
    }

    private static void none(Due due) {
        MeetingCarpets x = new MeetingCarpets();
        due.is("leastTrim() without steps", x.leastTrim(), -6);
        x.build(10, 15);
        x.set(1, 24);
        due.is("leastTrim() with pieces that are too short", x.leastTrim(), -6);
        x.set(1, 25);
        x.set(0, 25);
        due.is("leastTrim() with pieces that are long enough", x.leastTrim(), 0);
    }
}
