/** Promises 9 to 11: step, crew, count. */
final class EdgesOfAsksTest {
    private final Edges edges = new Edges("edges of asks");

    public static void main(String[] args) {
        EdgesOfAsksTest test = new EdgesOfAsksTest();
        test.stepNumbers();
        test.stepWhat();
        test.notLaid();
        test.placesZero();
        test.crewWhat();
        test.countWhat();
        test.countNothingAndEverything();
        test.countLaid();
        test.edges.end();
    }

    private void stepNumbers() {
        edges.run("NO_SUCH if there is no such step: none, 1 and 20 steps", """
            step(-1, 0) = NO_SUCH  step(0, 0) = NO_SUCH  build(25, 15) = 0  step(-1, 0) = NO_SUCH  step(0, 0) = 25
            step(1, 0) = NO_SUCH  put("19*10/15") = 8  read() = 20  step(19, 0) = 10  step(20, 0) = NO_SUCH
            step(21, 0) = NO_SUCH  step(MAX, 0) = NO_SUCH  step(MIN, 0) = NO_SUCH""");
        edges.run("a step that is undone is not there", """
            build(10, 15) = 0  build(10, 16) = 1  undo() = 1  step(1, 0) = NO_SUCH  step(0, 0) = 10  undo() = 0
            step(0, 0) = NO_SUCH""");
    }

    private void stepWhat() {
        edges.run("BAD_VALUE if what is out of range: -1 and 8; each what of a step that is laid", """
            build(11, 37) = 0  build(12, 33) = 1  begin(0, 20) = 0  lay(0) = 20  lay(0) = 20
            step(1, -1) = BAD_VALUE  step(1, 0) = 12  step(1, 1) = 33  step(1, 2) = 45  step(1, 3) = 48  step(1, 4) = 0
            step(1, 5) = 20  step(1, 6) = 17  step(1, 7) = 2  step(1, 8) = BAD_VALUE
            step(1, MIN) = BAD_VALUE  step(1, MAX) = BAD_VALUE
            step(0, 3) = 0  step(2, 0) = NO_SUCH  step(2, -1) = NO_SUCH  step(2, 8) = NO_SUCH
            step(-1, 8) = NO_SUCH""");
    }

    private void notLaid() {
        edges.runOfEachCrew("NONE if it is not laid: before, and when it is taken up; the other step stays", """
            build(10, 38) = 0  build(10, 38) = 1
            step(0, 4) = NONE  step(0, 5) = NONE  step(0, 6) = NONE  step(0, 7) = NONE  step(1, 4) = NONE
            lay(#) = 0  step(#, 4) = #  step(#, 5) = 0  step(#, 6) = 0  step(#, 7) = 2
            step(~, 4) = NONE  step(~, 5) = NONE  step(~, 6) = NONE  step(~, 7) = NONE
            takeUp(#) = #  step(#, 4) = NONE  step(#, 5) = NONE  step(#, 6) = NONE  step(#, 7) = NONE
            step(#, 2) = 48  step(#, 8) = BAD_VALUE""");
    }

    /** How often a place 0 lies on a step of a length, with a pattern and a phase at its foot. */
    private void zeros(int riser, int tread, int repeat, int phase, int zeros) {
        edges.run("at its foot counted, at its end not: " + (riser + tread) + " from " + phase + " by " + repeat,
            "set(0, " + repeat + ") = 24  set(1, 400) = 120  build(" + riser + ", " + tread + ") = 0\n"
            + "begin(0, " + phase + ") = 0  lay(0) = " + phase + "  step(0, 7) = " + zeros + "\n"
            + "step(0, 6) = " + (phase + riser + tread) % repeat);
    }

    private void placesZero() {
        // 25 by 60: from 35 the place 0 lies at its end, from 36 just below its end.
        zeros(10, 15, 60, 0, 1);
        zeros(10, 15, 60, 1, 0);
        zeros(10, 15, 60, 34, 0);
        zeros(10, 15, 60, 35, 0);
        zeros(10, 15, 60, 36, 1);
        zeros(10, 15, 60, 59, 1);
        // A step that is as long as the pattern, one less, and one more.
        zeros(10, 15, 25, 0, 1);
        zeros(10, 15, 25, 1, 1);
        zeros(10, 15, 25, 24, 1);
        zeros(10, 15, 26, 0, 1);
        zeros(10, 15, 26, 1, 0);
        zeros(10, 15, 26, 2, 1);
        zeros(10, 15, 24, 0, 2);
        zeros(10, 15, 24, 1, 1);
        zeros(10, 15, 24, 23, 1);
        zeros(10, 15, 24, 22, 1);
        // A step that is twice as long as the pattern.
        zeros(10, 38, 24, 0, 2);
        zeros(10, 38, 24, 1, 2);
        zeros(10, 38, 24, 23, 2);
        // The longest one, with the shortest pattern.
        zeros(25, 40, 2, 0, 33);
        zeros(25, 40, 2, 1, 32);
        zeros(25, 39, 2, 0, 32);
        zeros(25, 39, 2, 1, 32);
        zeros(25, 40, 60, 0, 2);
        zeros(25, 40, 60, 1, 1);
        zeros(25, 40, 60, 55, 1);
        zeros(25, 40, 60, 56, 2);
        edges.run("a place 0 on steps from above", """
            put("2*10/15") = 7  read() = 2  begin(1, 0) = 0  lay(1) = 23  step(1, 6) = 0  step(1, 7) = 1
            lay(1) = 22  step(0, 6) = 23  step(0, 7) = 1  takeUp(1) = 0  takeUp(1) = 1  begin(1, 1) = 0
            lay(1) = 0  step(1, 6) = 1  step(1, 7) = 2  lay(1) = 23  step(0, 6) = 0  step(0, 7) = 1""");
    }

    private void crewWhat() {
        edges.run("crew: NO_SUCH if there is no such crew; BAD_VALUE if what is out of range: -1 and 7", """
            crew(-1, 0) = NO_SUCH  crew(2, 0) = NO_SUCH  crew(MIN, 0) = NO_SUCH  crew(MAX, 0) = NO_SUCH
            crew(-1, -1) = NO_SUCH  crew(2, 7) = NO_SUCH  crew(0, -1) = BAD_VALUE  crew(0, 7) = BAD_VALUE
            crew(1, -1) = BAD_VALUE  crew(1, 7) = BAD_VALUE  crew(0, MIN) = BAD_VALUE  crew(1, MAX) = BAD_VALUE
            crew(0, 0) = 0  crew(0, 6) = NONE  crew(1, 0) = 0  crew(1, 6) = NONE""");
        edges.run("each what of both crews", """
            put("4*20/40") = 7  read() = 4  begin(0, 3) = 0  begin(1, 5) = 0  lay(0) = 3  lay(0) = 15  lay(1) = 17
            crew(0, 0) = 3  crew(0, 1) = 2  crew(0, 2) = 45  crew(0, 3) = 2  crew(0, 4) = 1  crew(0, 5) = 75
            crew(0, 6) = 2  crew(1, 0) = 5  crew(1, 1) = 1  crew(1, 2) = 41  crew(1, 3) = 1  crew(1, 4) = 0
            crew(1, 5) = 19  crew(1, 6) = 2  lay(1) = 5  crew(0, 6) = NONE  crew(1, 6) = NONE""");
        edges.run("6 the step that it lays next (NONE if all are laid): none, one, all", """
            crew(0, 6) = NONE  crew(1, 6) = NONE  put("20*10/38") = 8  read() = 20  crew(0, 6) = 0  crew(1, 6) = 19
            10 x lay(0) = 0  crew(0, 6) = 10  crew(1, 6) = 19  9 x lay(1) = 0  crew(0, 6) = 10  crew(1, 6) = 10
            lay(1) = 0  crew(0, 6) = NONE  crew(1, 6) = NONE  takeUp(0) = 9  crew(0, 6) = 9  crew(1, 6) = 9""");
        edges.run("1 steps that it laid: 0 and 20", """
            put("20*10/38") = 8  read() = 20  crew(1, 1) = 0  20 x lay(1) = 0  crew(1, 1) = 20  crew(0, 1) = 0
            crew(1, 3) = 10  crew(1, 4) = 9  crew(1, 5) = 216  crew(1, 2) = 24  crew(0, 4) = 0""");
    }

    private void countWhat() {
        edges.run("BAD_VALUE if what is out of range: -1 and 17", """
            count(-1) = BAD_VALUE  count(17) = BAD_VALUE  count(18) = BAD_VALUE  count(MIN) = BAD_VALUE
            count(MAX) = BAD_VALUE  count(0) = 24  count(16) = 0
            20 x build(10, 38)  count(-1) = BAD_VALUE  count(17) = BAD_VALUE""");
    }

    private void countNothingAndEverything() {
        edges.run("nothing there", """
            count(0) = 24  count(1) = 120  count(2) = 0  count(3) = 0  count(4) = 0  count(5) = 0  count(6) = 0
            count(7) = 0  count(8) = 0  count(9) = 0  count(10) = 0  count(11) = 0  count(12) = NONE
            count(13) = NONE  count(14) = NONE  count(15) = 0  count(16) = 0""");
        edges.run("everything full: 20 steps, all laid by both, a full pad, 6 states", """
            set(0, 60) = 24  set(1, 400) = 120  set(2, 9) = 0  put("20*25/40") = 8  read() = 20
            7 x put("20*25/40")  put("20*2") = 60  begin(1, 40) = 0  13 x lay(0)  7 x lay(1)
            count(0) = 60  count(1) = 400  count(2) = 9  count(3) = 20  count(4) = 20  count(5) = 1300
            count(6) = 1300  count(7) = 2000  count(8) = 180  count(9) = 520  count(10) = 3  count(11) = 20
            count(12) = 13  count(13) = 0  count(14) = 1  count(15) = 60  count(16) = 6  count(17) = BAD_VALUE""");
        edges.run("15 the length of the pad: 0, 59, 60", """
            count(15) = 0  7 x put("10/15;10")  put("10/") = 59  count(15) = 59  put("1") = 60  count(15) = 60
            put("1") = TOO_MANY  count(15) = 60  wipe() = 60  count(15) = 0""");
        edges.run("16 how many changes can be undone: 0, 1, 5, 6, and 6 again", """
            count(16) = 0  clear() = 0  count(16) = 1  4 x clear() = 0  count(16) = 5  clear() = 0  count(16) = 6
            clear() = 0  count(16) = 6  undo() = 5  count(16) = 5  5 x undo()  count(16) = 0  undo() = NOT_POSSIBLE
            count(16) = 0""");
    }

    private void countLaid() {
        edges.run("steps and lengths of those that are laid, from both ends", """
            build(10, 15) = 0  build(20, 20) = 1  build(25, 40) = 2  count(5) = 130  count(4) = 0  count(6) = 0
            lay(0) = 0  count(4) = 1  count(6) = 25  lay(1) = 7  count(4) = 2  count(6) = 90  count(11) = 2
            lay(1) = 15  count(4) = 3  count(6) = 130  count(11) = 3  takeUp(0) = 0  count(4) = 2  count(6) = 105
            takeUp(1) = 1  takeUp(1) = 2  count(4) = 0  count(6) = 0  count(11) = 0  count(5) = 130""");
    }
}
