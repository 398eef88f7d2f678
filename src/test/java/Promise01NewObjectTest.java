/** Promise 1: a new object is a house without steps. */
final class Promise01NewObjectTest {
    private static final int[] COUNTS = {24, 120, 0, 0, 0, 0, 0, 0, 0, 0, 0, 0, -6, -6, -6, 0, 0};
    private static final int[] CREWS = {0, 0, 0, 0, 0, 0, -6};

    public static void main(String[] args) {
        Due due = new Due("new object");
        MeetingCarpets x = new MeetingCarpets();
        for (int what = 0; what < COUNTS.length; what++) {
            due.is("count(" + what + ")", x.count(what), COUNTS[what]);
        }
        for (int crew = 0; crew < 2; crew++) {
            for (int what = 0; what < CREWS.length; what++) {
                due.is("crew(" + crew + ", " + what + ")", x.crew(crew, what), CREWS[what]);
            }
        }
        due.is("step(0, 0)", x.step(0, 0), -1);
        due.is("fault()", x.fault(), 0);
        due.is("undo()", x.undo(), -5);
        due.is("restore(0)", x.restore(0), -5);
        due.is("restore(1)", x.restore(1), -5);
        objectsAreApart(due);
        constants(due);
        due.end();
    }

    private static void objectsAreApart(Due due) {
        MeetingCarpets one = new MeetingCarpets();
        MeetingCarpets other = new MeetingCarpets();
        one.build(10, 15);
        one.set(0, 30);
        one.begin(0, 5);
        one.lay(0);
        one.save(0);
        Texts.put(one, "10/15");
        due.same("the other object", Look.at(other), Look.at(new MeetingCarpets()));
        due.is("the other object's restore(0)", other.restore(0), -5);
    }

    private static void constants(Due due) {
        due.is("NO_SUCH", MeetingCarpets.NO_SUCH, -1);
        due.is("BAD_VALUE", MeetingCarpets.BAD_VALUE, -2);
        due.is("BAD_TEXT", MeetingCarpets.BAD_TEXT, -3);
        due.is("TOO_MANY", MeetingCarpets.TOO_MANY, -4);
        due.is("NOT_POSSIBLE", MeetingCarpets.NOT_POSSIBLE, -5);
        due.is("NONE", MeetingCarpets.NONE, -6);
        due.is("REPEAT", MeetingCarpets.REPEAT, 0);
        due.is("ROLL", MeetingCarpets.ROLL, 1);
        due.is("SLACK", MeetingCarpets.SLACK, 2);
    }
}
