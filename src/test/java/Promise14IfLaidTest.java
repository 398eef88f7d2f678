/** Promise 14: ifLaid. */
final class Promise14IfLaidTest {
    public static void main(String[] args) {
        Due due = new Due("ifLaid");
        known(due);
        asWhenTheyLay(due);
        tooShort(due);
        errors(due);
        due.end();
    }

    /**
     * Steps of 60 with pieces of 120 and a pattern of 24: the phases from below are 3, 15, 3 and 15, so 3 and then 57
     * and 15 are lost; from above the ends are 5, 17, 5 and 17, so 19 and then 41 and 7 are lost.
     */
    private static void known(Due due) {
        MeetingCarpets x = house();
        String before = Look.at(x);
        due.is("ifLaid(0)", x.ifLaid(0), 19 + 41 + 7 + 53 + 19 + 41 + 7);
        due.is("ifLaid(1)", x.ifLaid(1), 3 + 19 + 41 + 7 + 53 + 19);
        due.is("ifLaid(2)", x.ifLaid(2), 3 + 57 + 15 + 19 + 41 + 7);
        due.is("ifLaid(3)", x.ifLaid(3), 3 + 57 + 15 + 45 + 3 + 19);
        due.is("ifLaid(4)", x.ifLaid(4), 3 + 57 + 15 + 45 + 3 + 57 + 15);
        due.same("look", Look.at(x), before);
    }

    /** What is laid, left or lost now does not count, and what is told comes true. */
    private static void asWhenTheyLay(Due due) {
        for (int step = 0; step <= 4; step++) {
            MeetingCarpets x = house();
            x.lay(1);
            x.lay(0);
            x.lay(0);
            x.takeUp(0);
            int told = x.ifLaid(step);
            x.clear();
            due.is("ifLaid(step) when all is taken up", x.ifLaid(step), told);
            for (int i = 0; i < step; i++) {
                x.lay(0);
            }
            for (int i = step; i < 4; i++) {
                x.lay(1);
            }
            due.is("count(4)", x.count(4), 4);
            due.is("count(8) for " + step, x.count(8), told);
        }
    }

    private static void tooShort(Due due) {
        MeetingCarpets x = house();
        x.set(1, 74);
        due.is("ifLaid(0)", x.ifLaid(0), -6);
        due.is("ifLaid(1)", x.ifLaid(1), -6);
        due.is("ifLaid(2)", x.ifLaid(2), -6);
        due.is("ifLaid(4)", x.ifLaid(4), -6);
        x.set(1, 75);
        due.is("ifLaid(4)", x.ifLaid(4), 3 + 12 + 15 + 0 + 3 + 12 + 15);
        due.is("ifLaid(3)", x.ifLaid(3), -6);
    }

    private static void errors(Due due) {
        MeetingCarpets x = new MeetingCarpets();
        due.is("ifLaid(0) without steps", x.ifLaid(0), -1);
        due.is("ifLaid(1) without steps", x.ifLaid(1), -1);
        x.build(10, 15);
        String before = Look.at(x);
        due.is("ifLaid(-1)", x.ifLaid(-1), -1);
        due.is("ifLaid(2)", x.ifLaid(2), -1);
        due.is("ifLaid(MIN)", x.ifLaid(Integer.MIN_VALUE), -1);
        due.is("ifLaid(MAX)", x.ifLaid(Integer.MAX_VALUE), -1);
        due.is("ifLaid(0)", x.ifLaid(0), 0);
        due.is("ifLaid(1)", x.ifLaid(1), 0);
        x.set(1, 24);
        due.is("ifLaid(0) of pieces of 24", x.ifLaid(0), -6);
        due.is("ifLaid(1) of pieces of 24", x.ifLaid(1), -6);
        due.is("ifLaid(2) of pieces of 24", x.ifLaid(2), -1);
        x.set(1, 120);
        due.same("look but for the history", Look.at(x).replace("undo 3", "undo 1"), before);
    }

    private static MeetingCarpets house() {
        MeetingCarpets x = new MeetingCarpets();
        Texts.put(x, "4*20/40");
        x.read();
        x.begin(0, 3);
        x.begin(1, 5);
        return x;
    }
}
