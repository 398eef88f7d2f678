/** Promise 20: save. */
final class Promise20SaveTest {
    public static void main(String[] args) {
        Due due = new Due("save");
        MeetingCarpets x = new MeetingCarpets();
        due.is("save(0) without steps", x.save(0), 0);
        x.build(20, 20);
        x.build(20, 25);
        Texts.put(x, "10/15");
        x.lay(1);
        String before = Look.at(x);
        due.is("save(1)", x.save(1), 2);
        due.is("save(-1)", x.save(-1), -2);
        due.is("save(2)", x.save(2), -2);
        due.is("save(MIN)", x.save(Integer.MIN_VALUE), -2);
        due.is("save(MAX)", x.save(Integer.MAX_VALUE), -2);
        due.same("look", Look.at(x), before);
        due.is("restore(0)", x.restore(0), 0);
        due.is("restore(1)", x.restore(1), 2);
        due.is("count(4)", x.count(4), 1);
        overwritten(due);
        apartFromLaterChanges(due);
        due.end();
    }

    private static void overwritten(Due due) {
        MeetingCarpets x = new MeetingCarpets();
        x.build(20, 20);
        x.save(0);
        x.save(1);
        x.build(20, 25);
        due.is("save(0)", x.save(0), 2);
        x.build(10, 15);
        due.is("restore(1)", x.restore(1), 1);
        due.is("restore(0)", x.restore(0), 2);
        due.is("step(1, 1)", x.step(1, 1), 25);
    }

    private static void apartFromLaterChanges(Due due) {
        MeetingCarpets x = new MeetingCarpets();
        x.build(20, 20);
        x.build(20, 25);
        x.begin(1, 8);
        x.lay(0);
        x.save(0);
        String before = Look.whatStands(x);
        x.lay(1);
        x.takeUp(0);
        x.clear();
        x.set(0, 40);
        x.set(1, 200);
        x.set(2, 7);
        x.begin(0, 30);
        x.begin(1, 31);
        x.build(15, 15);
        x.restore(0);
        due.same("look", Look.whatStands(x), before);
    }
}
