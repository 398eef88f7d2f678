/** Promise 6: lay. */
final class Promise06LayTest {
    public static void main(String[] args) {
        Due due = new Due("lay");
        fromBelow(due);
        fromAbove(due);
        tooShort(due);
        justLongEnough(due);
        errors(due);
        due.end();
    }

    private static void crewIs(Due due, MeetingCarpets x, int crew, int... wants) {
        for (int what = 0; what < wants.length; what++) {
            due.is("crew(" + crew + ", " + (what + 1) + ")", x.crew(crew, what + 1), wants[what]);
        }
    }

    /** Pieces of 100, a pattern of 30: each step is 40, and the phases are 5, 15, 25. */
    private static void fromBelow(Due due) {
        MeetingCarpets x = house(3, 30, 100);
        x.begin(0, 5);
        due.is("lay(0)", x.lay(0), 5);
        crewIs(due, x, 0, 1, 55, 1, 0, 5, 1);
        due.is("lay(0)", x.lay(0), 15);
        crewIs(due, x, 0, 2, 15, 1, 0, 5, 2);
        due.is("lay(0) with a second piece", x.lay(0), 25);
        crewIs(due, x, 0, 3, 35, 2, 1, 45, -6);
        crewIs(due, x, 1, 0, 0, 0, 0, 0, -6);
        due.is("count(16)", x.count(16), 6);
    }

    /** A new piece ends with 100 left over by 30, 10; so 5 from above are cut off to end with 5. */
    private static void fromAbove(Due due) {
        MeetingCarpets x = house(3, 30, 100);
        x.begin(1, 5);
        due.is("lay(1)", x.lay(1), 25);
        crewIs(due, x, 1, 1, 55, 1, 0, 5, 1);
        due.is("lay(1)", x.lay(1), 15);
        crewIs(due, x, 1, 2, 15, 1, 0, 5, 0);
        due.is("lay(1) with a second piece", x.lay(1), 5);
        crewIs(due, x, 1, 3, 35, 2, 1, 45, -6);
        due.is("step(0, 4)", x.step(0, 4), 1);
        due.is("step(0, 5)", x.step(0, 5), 5);
    }

    private static void tooShort(Due due) {
        MeetingCarpets x = house(2, 30, 44);
        x.begin(0, 5);
        x.begin(1, 9);
        String before = Look.at(x);
        due.is("lay(0): 5 and 40 of 44", x.lay(0), -5);
        due.is("lay(1): 5 and 40 of 44", x.lay(1), -5);
        due.same("look", Look.at(x), before);
        x.begin(0, 4);
        x.begin(1, 10);
        due.is("lay(0): 4 and 40 of 44", x.lay(0), 4);
        before = Look.at(x);
        due.is("lay(0): 14 and 40 of 44", x.lay(0), -5);
        due.same("look", Look.at(x), before);
        due.is("lay(1): 4 and 40 of 44", x.lay(1), 0);
        due.is("crew(1, 2)", x.crew(1, 2), 0);
        due.is("crew(1, 5)", x.crew(1, 5), 4);
    }

    /** The rest of a piece serves as long as it is not less than trim and step, to the last bit of it. */
    private static void justLongEnough(Due due) {
        for (int crew = 0; crew < 2; crew++) {
            MeetingCarpets exact = house(2, 40, 80);
            exact.lay(crew);
            due.is("lay(crew): 40 of 40", exact.lay(crew), 0);
            crewIs(due, exact, crew, 2, 0, 1, 0, 0, -6);
            MeetingCarpets less = house(2, 40, 79);
            less.begin(1, 39);
            less.lay(crew);
            less.lay(crew);
            crewIs(due, less, crew, 2, 39, 2, 1, 39, -6);
            trimWithin(due, crew);
        }
    }

    /** A step that is taken up leaves the piece at a place of its own: 30 more are cut off, or a new piece is taken. */
    private static void trimWithin(Due due, int crew) {
        MeetingCarpets x = house(1, 50, 130);
        x.begin(1, 30);
        x.lay(crew);
        x.takeUp(crew);
        due.is("lay(crew) again", x.lay(crew), crew == 0 ? 0 : 40);
        crewIs(due, x, crew, 1, 40, 1, 0, 50, -6);
        x.takeUp(crew);
        x.lay(crew);
        crewIs(due, x, crew, 1, 90, 2, 1, 130, -6);
    }

    private static void errors(Due due) {
        MeetingCarpets x = new MeetingCarpets();
        due.is("lay(0) without steps", x.lay(0), -5);
        due.is("lay(1) without steps", x.lay(1), -5);
        x.build(20, 20);
        String before = Look.at(x);
        due.is("lay(-1)", x.lay(-1), -1);
        due.is("lay(2)", x.lay(2), -1);
        due.is("lay(MIN)", x.lay(Integer.MIN_VALUE), -1);
        due.same("look", Look.at(x), before);
        x.lay(1);
        before = Look.at(x);
        due.is("lay(0) when all are laid", x.lay(0), -5);
        due.is("lay(1) when all are laid", x.lay(1), -5);
        due.is("lay(2) when all are laid", x.lay(2), -1);
        due.same("look", Look.at(x), before);
    }

    /** A house of steps of 40. */
    private static MeetingCarpets house(int steps, int repeat, int roll) {
        MeetingCarpets x = new MeetingCarpets();
        x.set(0, repeat);
        x.set(1, roll);
        for (int i = 0; i < steps; i++) {
            x.build(20, 20);
        }
        return x;
    }
}
