/** Promises 12 to 15: ifMet, bestBeginning, ifLaid, leastTrim. */
final class EdgesOfWhatIfTest {
    private final Edges edges = new Edges("edges of what if");

    public static void main(String[] args) {
        EdgesOfWhatIfTest test = new EdgesOfWhatIfTest();
        test.ifMetSteps();
        test.ifMetWays();
        test.ifMetWhateverIsLaid();
        test.bestBeginningSteps();
        test.bestBeginningComesRound();
        test.ifLaidSteps();
        test.ifLaidNone();
        test.ifLaidWhateverIsLaid();
        test.whenAPieceIsTakenAndNothingLaid();
        test.leastTrimNone();
        test.leastTrimOfSeveral();
        test.edges.end();
    }

    private void ifMetSteps() {
        edges.run("ifMet: 1 to the highest one: no step, 1, 2 and 3", """
            ifMet(0, 0) = NO_SUCH  ifMet(1, 0) = NO_SUCH  ifMet(-1, 1) = NO_SUCH
            build(20, 20) = 0  ifMet(0, 0) = NO_SUCH  ifMet(1, 0) = NO_SUCH  ifMet(0, 1) = NO_SUCH
            ifMet(1, 1) = NO_SUCH
            build(20, 20) = 1  ifMet(0, 0) = NO_SUCH  ifMet(1, 0) = 8  ifMet(2, 0) = NO_SUCH
            ifMet(0, 1) = NO_SUCH  ifMet(1, 1) = 8  ifMet(2, 1) = NO_SUCH  ifMet(-1, 0) = NO_SUCH
            build(20, 20) = 2  ifMet(1, 0) = 0  ifMet(2, 0) = 0  ifMet(2, 1) = 0  ifMet(3, 1) = NO_SUCH
            ifMet(MIN, 0) = NO_SUCH  ifMet(MAX, 0) = NO_SUCH""");
        edges.run("ifMet: the highest one of 20", """
            put("20*10/15") = 8  read() = 20  ifMet(0, 0) = NO_SUCH  ifMet(1, 0) = 4  ifMet(19, 0) = 4
            ifMet(20, 0) = NO_SUCH  ifMet(0, 1) = NO_SUCH  ifMet(1, 1) = 4  ifMet(19, 1) = 4
            ifMet(20, 1) = NO_SUCH""");
    }

    private void ifMetWays() {
        edges.run("BAD_VALUE if way is neither 0 nor 1, behind NO_SUCH", """
            build(20, 20) = 0  build(20, 20) = 1  ifMet(1, -1) = BAD_VALUE  ifMet(1, 0) = 8  ifMet(1, 1) = 8
            ifMet(1, 2) = BAD_VALUE  ifMet(1, MIN) = BAD_VALUE  ifMet(1, MAX) = BAD_VALUE
            ifMet(0, -1) = NO_SUCH  ifMet(0, 2) = NO_SUCH  ifMet(2, 2) = NO_SUCH  ifMet(-1, 2) = NO_SUCH""");
        for (int repeat : new int[] {2, 3, 23, 24, 59, 60}) {
            theSameForAllSteps(repeat, 0, 0);
            theSameForAllSteps(repeat, repeat - 1, 0);
            theSameForAllSteps(repeat, 0, repeat - 1);
            theSameForAllSteps(repeat, repeat - 1, repeat - 1);
            theSameForAllSteps(repeat, repeat / 2, 1);
        }
    }

    /** 20 steps, 809 long together. */
    private void theSameForAllSteps(int repeat, int below, int above) {
        int one = (below + 809) % repeat;
        int difference = Math.min(Math.abs(one - above), repeat - Math.abs(one - above));
        StringBuilder calls = new StringBuilder("set(0, " + repeat + ") = 24  begin(0, " + below + ") = 0\n");
        calls.append("begin(1, " + above + ") = 0\n");
        calls.append("put(\"10*10/15\")  put(\";9*20/39\")  put(\";10/18\")  read() = 20\n");
        calls.append("count(5) = 809\n");
        for (int step = 1; step <= 19; step++) {
            for (int way = 0; way <= 1; way++) {
                calls.append("ifMet(" + step + ", " + way + ") = " + difference + "\n");
            }
        }
        edges.run("the same by both ways, and for all steps", calls.toString());
    }

    private void ifMetWhateverIsLaid() {
        edges.run("whatever is laid, and whether pieces are long enough or not", """
            set(1, 20) = 120  put("3*20/21") = 7  read() = 3  ifMet(1, 0) = 3  ifMet(2, 1) = 3  set(1, 120) = 20
            lay(1) = 7  lay(1) = 14  ifMet(1, 0) = 3  ifMet(2, 0) = 3  lay(1) = 21  ifMet(1, 1) = 3  count(13) = NONE
            takeUp(1) = 0  lay(0) = 0  count(13) = 3  ifMet(2, 0) = 3""");
        edges.run("with the beginnings of now", """
            build(20, 20) = 0  build(20, 20) = 1  ifMet(1, 0) = 8  begin(0, 4) = 0  ifMet(1, 0) = 12  ifMet(1, 1) = 12
            begin(0, 5) = 4  ifMet(1, 0) = 11  ifMet(1, 1) = 11  begin(1, 13) = 0  ifMet(1, 0) = 0  ifMet(1, 1) = 0
            begin(1, 14) = 13  ifMet(1, 0) = 1  ifMet(1, 1) = 1  begin(1, 12) = 14  ifMet(1, 0) = 1  undo() = 5
            ifMet(1, 0) = 1  set(2, 9) = 0  ifMet(1, 0) = 1""");
    }

    private void bestBeginningSteps() {
        edges.run("bestBeginning: NOT_POSSIBLE if there are fewer than 2 steps, behind NO_SUCH", """
            bestBeginning(0) = NOT_POSSIBLE  bestBeginning(1) = NOT_POSSIBLE  bestBeginning(-1) = NO_SUCH
            bestBeginning(2) = NO_SUCH  build(20, 20) = 0  bestBeginning(0) = NOT_POSSIBLE
            bestBeginning(1) = NOT_POSSIBLE  bestBeginning(-1) = NO_SUCH  bestBeginning(2) = NO_SUCH
            build(20, 20) = 1  bestBeginning(0) = 16  bestBeginning(1) = 8  bestBeginning(-1) = NO_SUCH
            bestBeginning(2) = NO_SUCH  bestBeginning(MIN) = NO_SUCH  bestBeginning(MAX) = NO_SUCH""");
        edges.run("bestBeginning of 20 steps", """
            put("20*25/40") = 8  read() = 20  bestBeginning(0) = 20  bestBeginning(1) = 4
            begin(0, 20) = 0  ifMet(19, 0) = 0  begin(0, 0) = 20  begin(1, 4) = 0  ifMet(1, 0) = 0
            bestBeginning(0) = 0""");
    }

    private void bestBeginningComesRound() {
        edges.run("0 and REPEAT less 1, for the crew 0: 8 less than that from above", """
            build(20, 20) = 0  build(20, 20) = 1  begin(1, 8) = 0  bestBeginning(0) = 0  begin(1, 7) = 8
            bestBeginning(0) = 23  begin(1, 9) = 7  bestBeginning(0) = 1  begin(1, 23) = 9  bestBeginning(0) = 15""");
        edges.run("0 and REPEAT less 1, for the crew 1: 8 more than that from below", """
            build(20, 20) = 0  build(20, 20) = 1  begin(0, 16) = 0  bestBeginning(1) = 0  begin(0, 15) = 16
            bestBeginning(1) = 23  begin(0, 17) = 15  bestBeginning(1) = 1  begin(0, 23) = 17  bestBeginning(1) = 7""");
        edges.run("with a length that comes round to 0, both begin at the same place", """
            build(10, 38) = 0  build(10, 38) = 1  bestBeginning(0) = 0  bestBeginning(1) = 0
            begin(0, 23) = 0  bestBeginning(1) = 23  begin(1, 23) = 0  bestBeginning(0) = 23""");
        edges.run("a pattern of 2", """
            set(0, 2) = 24  build(10, 15) = 0  build(10, 16) = 1  bestBeginning(0) = 1  bestBeginning(1) = 1
            begin(0, 1) = 0  bestBeginning(1) = 0  bestBeginning(0) = 1""");
        edges.run("whatever is laid: a crew that laid steps is told of another beginning, too", """
            build(20, 20) = 0  build(20, 20) = 1  lay(0) = 0  lay(1) = 8  bestBeginning(0) = 16  bestBeginning(1) = 8
            begin(0, 16) = NOT_POSSIBLE  takeUp(0) = 0  begin(0, 16) = 0  lay(0) = 16  count(13) = 0""");
    }

    private void ifLaidSteps() {
        edges.run("ifLaid: 0 to how many steps there are; NO_SUCH out of range, or if there are no steps", """
            ifLaid(0) = NO_SUCH  ifLaid(1) = NO_SUCH  ifLaid(-1) = NO_SUCH
            build(20, 20) = 0  begin(0, 5) = 0  begin(1, 5) = 0  ifLaid(-1) = NO_SUCH  ifLaid(0) = 19  ifLaid(1) = 5
            ifLaid(2) = NO_SUCH  ifLaid(MIN) = NO_SUCH  ifLaid(MAX) = NO_SUCH
            build(20, 20) = 1  ifLaid(0) = 19  ifLaid(1) = 24  ifLaid(2) = 5  ifLaid(3) = NO_SUCH""");
        edges.run("ifLaid of 20 steps: the crew 1 lays all, both lay 10, the crew 0 lays all", """
            put("20*10/38") = 8  read() = 20  ifLaid(-1) = NO_SUCH  ifLaid(0) = 216  ifLaid(1) = 216  ifLaid(2) = 192
            ifLaid(10) = 192  ifLaid(19) = 216  ifLaid(20) = 216  ifLaid(21) = NO_SUCH""");
    }

    private void ifLaidNone() {
        edges.run("NONE if a step could not be laid: pieces of 44 and 45", """
            set(1, 44) = 120  build(20, 20) = 0  begin(0, 5) = 0  begin(1, 20) = 0
            ifLaid(0) = 0  ifLaid(1) = NONE  ifLaid(2) = NO_SUCH  set(1, 45) = 44  ifLaid(0) = 1  ifLaid(1) = 5
            begin(1, 15) = 20  ifLaid(0) = NONE  begin(1, 16) = 15  ifLaid(0) = 5""");
        edges.run("NONE if the last of both crews' steps could not be laid", """
            set(0, 60) = 24  set(1, 70) = 120  build(25, 40) = 0  build(25, 40) = 1  begin(1, 10) = 0
            ifLaid(0) = 10  ifLaid(1) = 0  ifLaid(2) = 10  begin(0, 1) = 0  ifLaid(2) = NONE  ifLaid(1) = 1
            ifLaid(0) = 10  begin(1, 9) = 10  ifLaid(0) = NONE  ifLaid(1) = 2""");
        edges.run("what would be left of pieces is none", """
            build(10, 15) = 0  ifLaid(0) = 0  ifLaid(1) = 0  set(1, 400) = 120  ifLaid(1) = 0  ifLaid(0) = 16""");
    }

    private void ifLaidWhateverIsLaid() {
        edges.run("if all was taken up: what is laid, left and lost now is no matter", """
            put("4*20/40") = 7  read() = 4  begin(0, 3) = 0  begin(1, 5) = 0
            ifLaid(0) = 187  ifLaid(2) = 142  ifLaid(4) = 195  lay(0) = 3  lay(0) = 15  takeUp(0) = 1  lay(1) = 17
            ifLaid(0) = 187  ifLaid(2) = 142  ifLaid(4) = 195  lay(1) = 5  lay(1) = 17  count(4) = 4
            ifLaid(0) = 187  ifLaid(2) = 142  ifLaid(4) = 195  leastTrim() = 1  count(8) = 274""");
    }

    private void whenAPieceIsTakenAndNothingLaid() {
        edges.runOfEachCrew("nothing changes, also when a piece is taken, but no step is laid", """
            build(20, 20) = 0  build(20, 20) = 1  lay(#)  takeUp(#)  ifMet(1, 0) = 8  ifMet(1, 1) = 8
            bestBeginning(0) = 16  bestBeginning(1) = 8  ifLaid(0) = 0  ifLaid(1) = 0  ifLaid(2) = 0  leastTrim() = 0
            fault() = 0  step(0, 5) = NONE  crew(#, 2) = 80  crew(#, 5) = 40  count(8) = 40  count(9) = 80""");
    }

    private void leastTrimNone() {
        edges.run("leastTrim: NONE if there is none (also without steps)", """
            leastTrim() = NONE  set(1, 24) = 120  leastTrim() = NONE  build(10, 15) = 0  leastTrim() = NONE
            set(1, 25) = 24  leastTrim() = 1  begin(0, 1) = 0  leastTrim() = NONE  begin(1, 1) = 0  leastTrim() = 0""");
        edges.run("NONE for some steps: the others are compared", """
            set(0, 60) = 24  set(1, 70) = 120  build(25, 40) = 0  build(25, 40) = 1  begin(1, 15) = 0
            ifLaid(0) = NONE  ifLaid(1) = NONE  ifLaid(2) = 10  leastTrim() = 2  begin(1, 9) = 15
            ifLaid(0) = NONE  ifLaid(1) = 1  ifLaid(2) = 10  leastTrim() = 1  begin(0, 1) = 0
            ifLaid(0) = NONE  ifLaid(1) = 2  ifLaid(2) = NONE  leastTrim() = 1""");
    }

    private void leastTrimOfSeveral() {
        edges.run("of several the lowest: all alike", """
            build(10, 15) = 0  ifLaid(0) = 0  ifLaid(1) = 0  leastTrim() = 0""");
        edges.run("of several the lowest: 1, 2 and 3 of 0 to 4", """
            put("4*20/40") = 7  read() = 4  begin(0, 3) = 0  begin(1, 5) = 0
            ifLaid(0) = 187  ifLaid(1) = 142  ifLaid(2) = 142  ifLaid(3) = 142  ifLaid(4) = 195  leastTrim() = 1""");
        edges.run("the step 0, where the crew 1 lays all", """
            build(20, 20) = 0  build(20, 20) = 1  begin(0, 5) = 0  ifLaid(0) = 0  ifLaid(1) = 5  ifLaid(2) = 5
            leastTrim() = 0""");
        edges.run("behind the highest step, where the crew 0 lays all", """
            build(20, 20) = 0  build(20, 20) = 1  begin(1, 5) = 0  ifLaid(0) = 19  ifLaid(1) = 19  ifLaid(2) = 0
            leastTrim() = 2""");
        edges.run("behind the highest of 20 steps", """
            put("20*10/38") = 8  read() = 20  set(1, 48) = 120  leastTrim() = 0  begin(1, 1) = 0  leastTrim() = 20
            ifLaid(0) = NONE  ifLaid(19) = NONE  ifLaid(20) = 0""");
    }
}
