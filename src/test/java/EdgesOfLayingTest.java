/** Promises 6 to 8: lay, takeUp, clear. What a piece has to be like stands in EdgesOfCrewsTest. */
final class EdgesOfLayingTest {
    private final Edges edges = new Edges("edges of laying");

    public static void main(String[] args) {
        EdgesOfLayingTest test = new EdgesOfLayingTest();
        test.layRefused();
        test.layReturnsThePhase();
        test.takeUp();
        test.takeUpAll();
        test.laidAgain();
        test.clear();
        test.edges.end();
    }

    private void layRefused() {
        edges.run("NO_SUCH if there is no such crew; NOT_POSSIBLE if all steps are laid: without steps", """
            lay(-1) = NO_SUCH  lay(2) = NO_SUCH  lay(MIN) = NO_SUCH  lay(MAX) = NO_SUCH
            lay(0) = NOT_POSSIBLE  lay(1) = NOT_POSSIBLE""");
        edges.run("NOT_POSSIBLE if all steps are laid, by both, by one, by the other", """
            build(20, 20) = 0  build(20, 20) = 1  lay(0) = 0  lay(1) = 8  lay(0) = NOT_POSSIBLE  lay(1) = NOT_POSSIBLE
            lay(2) = NO_SUCH  clear() = 2  lay(0) = 0  lay(0) = 16  lay(0) = NOT_POSSIBLE  lay(1) = NOT_POSSIBLE
            clear() = 2  lay(1) = 8  lay(1) = 16  lay(0) = NOT_POSSIBLE  lay(1) = NOT_POSSIBLE""");
    }

    private void layReturnsThePhase() {
        edges.run("lay returns the phase of the step, 0 and the last place also", """
            put("2*10/15") = 7  read() = 2  lay(0) = 0  step(0, 5) = 0  lay(1) = 23  step(1, 5) = 23
            clear() = 2  begin(0, 23) = 0  begin(1, 1) = 0  lay(0) = 23  lay(1) = 0  step(1, 5) = 0""");
    }

    private void takeUp() {
        edges.run("takeUp: NO_SUCH if there is no such crew; NOT_POSSIBLE if it laid none", """
            takeUp(-1) = NO_SUCH  takeUp(2) = NO_SUCH  takeUp(MIN) = NO_SUCH  takeUp(MAX) = NO_SUCH
            takeUp(0) = NOT_POSSIBLE  takeUp(1) = NOT_POSSIBLE  build(20, 20) = 0  takeUp(0) = NOT_POSSIBLE
            takeUp(1) = NOT_POSSIBLE  lay(0) = 0  takeUp(1) = NOT_POSSIBLE  takeUp(0) = 0  takeUp(0) = NOT_POSSIBLE
            lay(1) = 8  takeUp(0) = NOT_POSSIBLE  takeUp(1) = 0  takeUp(1) = NOT_POSSIBLE""");
        edges.run("what was needed for it is lost as a trim, seams and what is left stay, from below", """
            build(10, 15) = 0  build(25, 40) = 1  set(1, 70) = 120  begin(0, 1) = 0
            lay(0) = 1  crew(0, 2) = 44  crew(0, 5) = 1  lay(0) = 2  crew(0, 2) = 3  crew(0, 4) = 1  crew(0, 5) = 47
            takeUp(0) = 1  crew(0, 1) = 1  crew(0, 2) = 3  crew(0, 3) = 2  crew(0, 4) = 1  crew(0, 5) = 112
            count(4) = 1  count(6) = 25  count(11) = 1  step(1, 4) = NONE  step(1, 5) = NONE  step(1, 7) = NONE
            step(0, 5) = 1  takeUp(0) = 0  crew(0, 1) = 0  crew(0, 2) = 3  crew(0, 4) = 1  crew(0, 5) = 137
            count(7) = 140  count(11) = 0  count(6) = 0  count(8) = 137  count(9) = 3""");
        edges.run("what was needed for it is lost as a trim, seams and what is left stay, from above", """
            build(25, 40) = 0  build(10, 15) = 1  set(1, 70) = 120  begin(1, 21) = 0
            lay(1) = 20  crew(1, 2) = 44  crew(1, 5) = 1  lay(1) = 3  crew(1, 2) = 3  crew(1, 4) = 1  crew(1, 5) = 47
            takeUp(1) = 0  crew(1, 1) = 1  crew(1, 2) = 3  crew(1, 3) = 2  crew(1, 4) = 1  crew(1, 5) = 112
            count(4) = 1  count(6) = 25  count(11) = 1  step(0, 4) = NONE  step(0, 5) = NONE  step(0, 7) = NONE
            step(1, 5) = 20  takeUp(1) = 1  crew(1, 1) = 0  crew(1, 2) = 3  crew(1, 4) = 1  crew(1, 5) = 137""");
    }

    private void takeUpAll() {
        for (int crew = 0; crew < 2; crew++) {
            StringBuilder calls = new StringBuilder("put(\"20*10/38\") = 8  read() = 20  20 x lay(" + crew + ") = 0\n");
            for (int i = 0; i < 20; i++) {
                int step = crew == 0 ? 19 - i : i;
                calls.append("takeUp(" + crew + ") = " + step + "  count(11) = " + (19 - i) + "\n");
            }
            calls.append("takeUp(" + crew + ") = NOT_POSSIBLE  count(7) = 1200  count(8) = 1176  count(9) = 24\n");
            calls.append("count(10) = 9  crew(0, 6) = 0  crew(1, 6) = 19");
            edges.run("a crew takes 20 steps up again, crew " + crew, calls.toString());
        }
    }

    private void laidAgain() {
        edges.run("a step that one took up is laid by the other one", """
            build(20, 20) = 0  build(20, 20) = 1  lay(0) = 0  lay(1) = 8  takeUp(0) = 0  lay(1) = 16
            step(0, 4) = 1  step(0, 5) = 16  count(12) = NONE  takeUp(1) = 0  takeUp(1) = 1  lay(0) = 0  lay(0) = 16
            step(1, 4) = 0  step(1, 5) = 16  count(12) = NONE""");
        edges.run("it is laid again in the same phase; the piece stands where it was, and comes round", """
            build(10, 15) = 0  build(10, 15) = 1  lay(0) = 0  lay(0) = 1  takeUp(0) = 1  lay(0) = 1
            crew(0, 2) = 22  crew(0, 3) = 1  crew(0, 5) = 48  takeUp(0) = 1  lay(0) = 1
            crew(0, 2) = 94  crew(0, 3) = 2  crew(0, 5) = 96""");
    }

    private void clear() {
        edges.run("clear of nothing is a change", """
            clear() = 0  count(16) = 1  clear() = 0  count(16) = 2  undo() = 1""");
        edges.run("clear: no step is laid, no crew has taken a piece, seams and trims are 0 (beginnings stay)", """
            put("20*25/40") = 8  read() = 20  begin(0, 7) = 0  begin(1, 9) = 0  set(2, 5) = 0  put("10/1") = 4
            10 x lay(0)  10 x lay(1)  clear() = 20  count(3) = 20  count(4) = 0  count(6) = 0  count(7) = 0
            count(8) = 0
            count(9) = 0  count(10) = 0  count(11) = 0  count(12) = NONE  count(13) = NONE  count(14) = NONE
            crew(0, 0) = 7  crew(1, 0) = 9  crew(0, 2) = 0  crew(1, 2) = 0  crew(0, 3) = 0  crew(1, 3) = 0
            crew(0, 6) = 0  crew(1, 6) = 19  step(0, 4) = NONE  step(19, 4) = NONE  count(2) = 5  count(15) = 4
            clear() = 0  lay(0) = 7  lay(1) = 16  count(10) = 0  clear() = 2""");
        edges.run("clear when a piece is taken, but no step is laid", """
            build(20, 20) = 0  lay(1) = 8  takeUp(1) = 0  clear() = 0  count(7) = 0  count(8) = 0  count(9) = 0
            undo()  count(7) = 120  count(8) = 40  count(9) = 80""");
    }
}
