/** Promise 7: takeUp. */
final class Promise07TakeUpTest {
    public static void main(String[] args) {
        Due due = new Due("takeUp");
        fromBothEnds(due);
        seamsStay(due);
        errors(due);
        due.end();
    }

    private static void fromBothEnds(Due due) {
        MeetingCarpets x = new MeetingCarpets();
        Texts.put(x, "10/15;20/20;25/40");
        x.read();
        x.begin(0, 2);
        x.lay(0);
        x.lay(1);
        x.lay(0);
        due.is("count(11)", x.count(11), 3);
        due.is("takeUp(0)", x.takeUp(0), 1);
        due.is("count(11)", x.count(11), 2);
        due.is("count(6)", x.count(6), 90);
        due.is("crew(0, 1)", x.crew(0, 1), 1);
        due.is("crew(0, 2)", x.crew(0, 2), 53);
        due.is("crew(0, 3)", x.crew(0, 3), 1);
        due.is("crew(0, 5)", x.crew(0, 5), 42);
        due.is("step(1, 4)", x.step(1, 4), -6);
        due.is("takeUp(1)", x.takeUp(1), 2);
        due.is("crew(1, 2)", x.crew(1, 2), 55);
        due.is("crew(1, 5)", x.crew(1, 5), 65);
        due.is("crew(1, 6)", x.crew(1, 6), 2);
        due.is("takeUp(0)", x.takeUp(0), 0);
        due.is("crew(0, 5)", x.crew(0, 5), 67);
        due.is("count(7)", x.count(7), 240);
        due.is("count(8) and count(9)", x.count(8) + x.count(9), 240);
        due.is("lay(1) of what the other took up", x.lay(1), 7);
    }

    private static void seamsStay(Due due) {
        MeetingCarpets x = new MeetingCarpets();
        x.set(1, 65);
        x.build(25, 40);
        x.build(25, 40);
        x.set(0, 5);
        x.lay(1);
        x.lay(1);
        due.is("count(10)", x.count(10), 1);
        due.is("takeUp(1)", x.takeUp(1), 0);
        due.is("takeUp(1)", x.takeUp(1), 1);
        due.is("count(10)", x.count(10), 1);
        due.is("crew(1, 3)", x.crew(1, 3), 2);
        due.is("lay(0)", x.lay(0), 0);
        due.is("lay(1)", x.lay(1), 0);
        due.is("count(10)", x.count(10), 2);
    }

    private static void errors(Due due) {
        MeetingCarpets x = new MeetingCarpets();
        x.build(10, 15);
        x.lay(1);
        String before = Look.at(x);
        due.is("takeUp(0)", x.takeUp(0), -5);
        due.is("takeUp(-1)", x.takeUp(-1), -1);
        due.is("takeUp(2)", x.takeUp(2), -1);
        due.same("look", Look.at(x), before);
        due.is("takeUp(1)", x.takeUp(1), 0);
        due.is("count(16)", x.count(16), 3);
        due.is("takeUp(1) again", x.takeUp(1), -5);
    }
}
