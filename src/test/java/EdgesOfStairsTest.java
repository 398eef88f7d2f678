/** The section "Stairs". */
final class EdgesOfStairsTest {
    private final Edges edges = new Edges("edges of stairs");

    public static void main(String[] args) {
        EdgesOfStairsTest test = new EdgesOfStairsTest();
        test.noStep();
        test.twentySteps();
        test.risersAndTreads();
        test.lengths();
        test.edges.end();
    }

    private void noStep() {
        edges.run("no step: nothing is there", """
            count(3) = 0  count(4) = 0  count(5) = 0  count(6) = 0  count(11) = 0
            step(0, 0) = NO_SUCH  step(-1, 0) = NO_SUCH  crew(0, 6) = NONE  crew(1, 6) = NONE
            lay(0) = NOT_POSSIBLE  lay(1) = NOT_POSSIBLE  takeUp(0) = NOT_POSSIBLE  takeUp(1) = NOT_POSSIBLE
            ifMet(0, 0) = NO_SUCH  ifMet(1, 0) = NO_SUCH  bestBeginning(0) = NOT_POSSIBLE
            ifLaid(0) = NO_SUCH  leastTrim() = NONE  clear() = 0""");
    }

    private void twentySteps() {
        StringBuilder calls = new StringBuilder("step(0, 0) = NO_SUCH\n");
        for (int step = 0; step < 20; step++) {
            calls.append("build(10, ").append(15 + step).append(") = ").append(step).append('\n');
        }
        edges.run("There are up to 20 steps, numbered from 0 in the order in which they were built", calls + """
            count(3) = 20  count(5) = 690
            build(10, 15) = TOO_MANY  build(25, 40) = TOO_MANY  count(3) = 20
            step(0, 1) = 15  step(18, 1) = 33  step(19, 1) = 34  step(20, 1) = NO_SUCH  step(-1, 1) = NO_SUCH
            step(19, 0) = 10  step(19, 2) = 44  step(19, 3) = 646  undo() = 5  count(3) = 19
            build(11, 40) = 19  step(19, 0) = 11  step(19, 1) = 40  build(10, 15) = TOO_MANY""");
    }

    private void risersAndTreads() {
        eachRiser(15);
        eachRiser(40);
        eachTread(10, 15, 28);
        eachTread(25, 28, 40);
        edges.run("riser, 10 to 25: beside the range", """
            build(9, 15) = BAD_VALUE  build(26, 15) = BAD_VALUE  build(9, 40) = BAD_VALUE  build(26, 40) = BAD_VALUE
            build(0, 20) = BAD_VALUE  build(-10, 20) = BAD_VALUE  build(MIN, 20) = BAD_VALUE
            build(MAX, 20) = BAD_VALUE  build(40, 20) = BAD_VALUE  count(3) = 0
            build(10, 15) = 0  build(25, 15) = 1  build(10, 40) = 2  build(25, 40) = 3""");
        edges.run("tread, 15 to 40: beside the range", """
            build(10, 14) = BAD_VALUE  build(10, 41) = BAD_VALUE  build(25, 14) = BAD_VALUE  build(25, 41) = BAD_VALUE
            build(20, 0) = BAD_VALUE  build(20, -15) = BAD_VALUE  build(20, MIN) = BAD_VALUE
            build(20, MAX) = BAD_VALUE  build(20, 10) = BAD_VALUE  count(3) = 0
            build(9, 14) = BAD_VALUE  build(26, 41) = BAD_VALUE  build(14, 10) = BAD_VALUE
            build(15, 14) = BAD_VALUE""");
    }

    private void eachRiser(int tread) {
        StringBuilder calls = new StringBuilder();
        for (int riser = 10; riser <= 25; riser++) {
            int step = riser - 10;
            calls.append("build(" + riser + ", " + tread + ") = " + step + "  step(" + step + ", 0) = " + riser + "\n");
        }
        edges.run("riser, 10 to 25, with a tread of " + tread, calls.toString());
    }

    private void eachTread(int riser, int least, int most) {
        StringBuilder calls = new StringBuilder();
        for (int tread = least; tread <= most; tread++) {
            int step = tread - least;
            calls.append("build(" + riser + ", " + tread + ") = " + step + "  step(" + step + ", 1) = " + tread + "\n");
        }
        edges.run("tread, " + least + " to " + most + ", with a riser of " + riser, calls.toString());
    }

    private void lengths() {
        edges.run("The length of a step is its riser and its tread, together: the least and the largest", """
            build(10, 15) = 0  build(25, 40) = 1  build(10, 15) = 2
            step(0, 2) = 25  step(1, 2) = 65  step(2, 2) = 25
            step(0, 3) = 0  step(1, 3) = 25  step(2, 3) = 90  count(5) = 115""");
        edges.run("20 steps of the least length", """
            put("20*10/15") = 8  read() = 20  step(0, 3) = 0  step(19, 2) = 25  step(19, 3) = 475  count(5) = 500""");
        edges.run("20 steps of the largest length", """
            put("20*25/40") = 8  read() = 20  step(0, 3) = 0  step(19, 2) = 65  step(19, 3) = 1235  count(5) = 1300""");
    }
}
