/** Promise 9: step. */
final class Promise09StepTest {
    private static final int[][] LAID = {
        {10, 15, 25, 0, 0, 3, 4, 1},
        {20, 20, 40, 25, 0, 4, 20, 1},
        {25, 40, 65, 65, -6, -6, -6, -6},
        {12, 33, 45, 130, 1, 5, 2, 2},
    };

    public static void main(String[] args) {
        Due due = new Due("step");
        MeetingCarpets x = new MeetingCarpets();
        Texts.put(x, "10/15;20/20;25/40;12/33");
        x.read();
        x.begin(0, 3);
        x.begin(1, 2);
        x.lay(0);
        x.lay(1);
        x.lay(0);
        String before = Look.at(x);
        for (int step = 0; step < LAID.length; step++) {
            for (int what = 0; what < LAID[step].length; what++) {
                due.is("step(" + step + ", " + what + ")", x.step(step, what), LAID[step][what]);
            }
            due.is("step(step, 8)", x.step(step, 8), -2);
            due.is("step(step, -1)", x.step(step, -1), -2);
            due.is("step(step, MIN)", x.step(step, Integer.MIN_VALUE), -2);
        }
        due.is("step(4, 0)", x.step(4, 0), -1);
        due.is("step(-1, 0)", x.step(-1, 0), -1);
        due.is("step(4, 8)", x.step(4, 8), -1);
        due.is("step(MAX, 5)", x.step(Integer.MAX_VALUE, 5), -1);
        due.same("look", Look.at(x), before);
        placesZero(due);
        due.end();
    }

    /** A place 0 at the foot counts, one at the end does not. */
    private static void placesZero(Due due) {
        zerosOf(due, 20, 0, 2);
        zerosOf(due, 20, 1, 2);
        zerosOf(due, 20, 19, 2);
        zerosOf(due, 41, 0, 1);
        zerosOf(due, 41, 1, 0);
        zerosOf(due, 41, 2, 1);
        zerosOf(due, 40, 0, 1);
        zerosOf(due, 40, 1, 1);
        zerosOf(due, 39, 0, 2);
        zerosOf(due, 60, 19, 0);
        zerosOf(due, 60, 20, 0);
        zerosOf(due, 60, 21, 1);
        zerosOf(due, 2, 1, 20);
    }

    private static void zerosOf(Due due, int repeat, int phase, int zeros) {
        MeetingCarpets x = new MeetingCarpets();
        x.build(20, 20);
        x.set(0, repeat);
        x.begin(0, phase);
        due.is("lay(0)", x.lay(0), phase);
        due.is("step(0, 7) with " + repeat + " and " + phase, x.step(0, 7), zeros);
    }
}
