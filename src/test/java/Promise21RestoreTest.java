/** Promise 21: restore. */
final class Promise21RestoreTest {
    public static void main(String[] args) {
        Due due = new Due("restore");
        errors(due);
        keptInTheSlot(due);
        isAChange(due);
        notThePad(due);
        piecesGoOn(due);
        due.end();
    }

    private static void errors(Due due) {
        MeetingCarpets x = new MeetingCarpets();
        x.build(20, 20);
        x.save(1);
        x.build(20, 20);
        String before = Look.at(x);
        due.is("restore(0), where nothing is", x.restore(0), -5);
        due.is("restore(-1)", x.restore(-1), -2);
        due.is("restore(2)", x.restore(2), -2);
        due.is("restore(MIN)", x.restore(Integer.MIN_VALUE), -2);
        due.is("restore(MAX)", x.restore(Integer.MAX_VALUE), -2);
        due.same("look", Look.at(x), before);
        due.is("restore(1)", x.restore(1), 1);
    }

    private static void keptInTheSlot(Due due) {
        MeetingCarpets x = new MeetingCarpets();
        x.build(20, 20);
        x.build(21, 20);
        x.lay(0);
        x.save(0);
        String before = Look.whatStands(x);
        x.lay(0);
        due.is("restore(0)", x.restore(0), 2);
        due.same("look", Look.whatStands(x), before);
        x.clear();
        x.build(10, 15);
        x.begin(0, 9);
        due.is("restore(0) again", x.restore(0), 2);
        due.same("look again", Look.whatStands(x), before);
    }

    private static void isAChange(Due due) {
        MeetingCarpets x = new MeetingCarpets();
        x.build(20, 20);
        x.save(0);
        x.build(21, 20);
        x.set(2, 5);
        String before = Look.whatStands(x);
        due.is("restore(0)", x.restore(0), 1);
        due.is("count(16)", x.count(16), 4);
        due.is("count(2)", x.count(2), 0);
        due.is("undo()", x.undo(), 3);
        due.same("look", Look.whatStands(x), before);
        for (int i = 0; i < 8; i++) {
            x.restore(0);
        }
        due.is("count(16)", x.count(16), 6);
    }

    private static void notThePad(Due due) {
        MeetingCarpets x = new MeetingCarpets();
        Texts.put(x, "10/15");
        x.save(0);
        x.wipe();
        Texts.put(x, "25/4");
        x.restore(0);
        due.is("count(15)", x.count(15), 4);
        due.is("fault()", x.fault(), 4);
    }

    /** What is left of a piece, and the place where its pattern stands, is restored, too. */
    private static void piecesGoOn(Due due) {
        MeetingCarpets x = new MeetingCarpets();
        x.set(1, 130);
        Texts.put(x, "4*20/25");
        x.read();
        x.begin(1, 7);
        x.lay(1);
        x.takeUp(1);
        x.save(1);
        due.is("lay(1)", x.lay(1), 10);
        int trims = x.crew(1, 5);
        int left = x.crew(1, 2);
        x.clear();
        x.set(1, 125);
        x.restore(1);
        due.is("count(1)", x.count(1), 130);
        due.is("lay(1) again", x.lay(1), 10);
        due.is("crew(1, 5)", x.crew(1, 5), trims);
        due.is("crew(1, 2)", x.crew(1, 2), left);
    }
}
