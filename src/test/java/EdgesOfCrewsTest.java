/** The section "Crews". */
final class EdgesOfCrewsTest {
    private final Edges edges = new Edges("edges of crews");

    public static void main(String[] args) {
        EdgesOfCrewsTest test = new EdgesOfCrewsTest();
        test.atFirst();
        test.order();
        test.phasesFromBelow();
        test.phasesFromAbove();
        test.newPieces();
        test.piecesShorterThanThePattern();
        test.justEnoughLeft();
        test.noneLeft();
        test.cutAhead();
        test.newPieceTooShort();
        test.seamsAndRods();
        test.edges.end();
    }

    private void atFirst() {
        edges.run("Each has what is left of its piece (nothing at first), and a beginning (0 at first)", """
            crew(0, 0) = 0  crew(0, 2) = 0  crew(0, 3) = 0  crew(1, 0) = 0  crew(1, 2) = 0  crew(1, 3) = 0""");
        edges.run("a beginning, 0 to REPEAT less 1", """
            begin(0, 23) = 0  begin(0, 24) = BAD_VALUE  begin(0, -1) = BAD_VALUE  begin(0, 0) = 23
            begin(1, 23) = 0  begin(1, 24) = BAD_VALUE  begin(1, -1) = BAD_VALUE  begin(1, 0) = 23""");
    }

    private void order() {
        edges.run("from below 0, 1, 2; from above the highest, then the one below it; none that is laid", """
            put("4*20/20") = 7  read() = 4  crew(0, 6) = 0  crew(1, 6) = 3
            lay(0) = 0  crew(0, 6) = 1  crew(1, 6) = 3  lay(1) = 8  crew(0, 6) = 1  crew(1, 6) = 2
            lay(1) = 16  crew(0, 6) = 1  crew(1, 6) = 1  lay(0) = 16  crew(0, 6) = NONE  crew(1, 6) = NONE
            step(0, 4) = 0  step(1, 4) = 0  step(2, 4) = 1  step(3, 4) = 1
            lay(0) = NOT_POSSIBLE  lay(1) = NOT_POSSIBLE""");
        edges.run("from below up to the last of 20 steps", """
            put("20*10/38") = 8  read() = 20  begin(0, 23) = 0  19 x lay(0) = 23  crew(0, 6) = 19  crew(1, 6) = 19
            lay(0) = 23  crew(0, 1) = 20  crew(0, 6) = NONE  crew(1, 6) = NONE
            lay(0) = NOT_POSSIBLE  lay(1) = NOT_POSSIBLE  step(0, 4) = 0  step(19, 4) = 0  count(4) = 20""");
        edges.run("from above down to the last of 20 steps", """
            put("20*10/38") = 8  read() = 20  begin(1, 23) = 0  19 x lay(1) = 23  crew(0, 6) = 0  crew(1, 6) = 0
            lay(1) = 23  crew(1, 1) = 20  crew(0, 6) = NONE  crew(1, 6) = NONE
            lay(0) = NOT_POSSIBLE  lay(1) = NOT_POSSIBLE  step(0, 4) = 1  step(19, 4) = 1  count(4) = 20""");
        edges.run("one step: from below", """
            build(10, 15) = 0  crew(0, 6) = 0  crew(1, 6) = 0  lay(0) = 0  step(0, 4) = 0  lay(1) = NOT_POSSIBLE""");
        edges.run("one step: from above", """
            build(10, 15) = 0  lay(1) = 23  step(0, 4) = 1  lay(0) = NOT_POSSIBLE""");
    }

    private void phasesFromBelow() {
        edges.run("phases from below come round to 0", """
            build(10, 15) = 0  build(10, 38) = 1  build(10, 15) = 2  begin(0, 23) = 0
            lay(0) = 23  step(0, 6) = 0  lay(0) = 0  step(1, 6) = 0  lay(0) = 0  step(2, 6) = 1""");
        edges.run("phases from below: one less than what comes round", """
            build(10, 15) = 0  build(10, 38) = 1  build(10, 15) = 2  begin(0, 22) = 0
            lay(0) = 22  step(0, 6) = 23  lay(0) = 23  step(1, 6) = 23  lay(0) = 23  step(2, 6) = 0""");
        edges.run("phases from below: the beginning is the first one's, also without steps below", """
            build(10, 15) = 0  begin(0, 0) = 0  lay(0) = 0  takeUp(0) = 0  begin(0, 1) = 0  lay(0) = 1
            takeUp(0) = 0  begin(0, 23) = 1  lay(0) = 23""");
        edges.run("phases from below: all lengths below together, left over by REPEAT", """
            set(0, 60) = 24  set(1, 400) = 120  put("20*25/40") = 8  read() = 20
            lay(0) = 0  lay(0) = 5  lay(0) = 10  lay(0) = 15  lay(0) = 20  lay(0) = 25  lay(0) = 30  lay(0) = 35
            lay(0) = 40  lay(0) = 45  lay(0) = 50  lay(0) = 55  lay(0) = 0  lay(0) = 5  step(11, 6) = 0""");
    }

    private void phasesFromAbove() {
        edges.run("phases from above come round to 0", """
            build(10, 15) = 0  build(10, 38) = 1  build(10, 15) = 2  begin(1, 1) = 0
            lay(1) = 0  step(2, 6) = 1  lay(1) = 0  step(1, 6) = 0  lay(1) = 23  step(0, 6) = 0""");
        edges.run("phases from above: one more than what comes round", """
            build(10, 15) = 0  build(10, 38) = 1  build(10, 15) = 2  begin(1, 2) = 0
            lay(1) = 1  step(2, 6) = 2  lay(1) = 1  step(1, 6) = 1  lay(1) = 0  step(0, 6) = 1""");
        edges.run("the place at the end of the highest tread is the beginning", """
            build(10, 15) = 0  begin(1, 0) = 0  lay(1) = 23  step(0, 6) = 0  takeUp(1) = 0
            begin(1, 23) = 0  lay(1) = 22  step(0, 6) = 23""");
        edges.run("phases from above: all lengths together, left over by REPEAT", """
            set(0, 60) = 24  set(1, 400) = 120  put("20*25/40") = 8  read() = 20
            lay(1) = 55  lay(1) = 50  lay(1) = 45  lay(1) = 40  lay(1) = 35  lay(1) = 30  lay(1) = 25  lay(1) = 20
            lay(1) = 15  lay(1) = 10  lay(1) = 5  lay(1) = 0  lay(1) = 55  step(7, 6) = 0  step(6, 6) = NONE""");
    }

    private void newPieces() {
        edges.run("A new piece begins with the place 0: nothing, 1, or REPEAT less 1 is cut off from below", """
            build(20, 20) = 0  begin(0, 0) = 0  lay(0) = 0  crew(0, 2) = 80  crew(0, 5) = 0
            clear() = 1  begin(0, 1) = 0  lay(0) = 1  crew(0, 2) = 79  crew(0, 5) = 1
            clear() = 1  begin(0, 23) = 1  lay(0) = 23  crew(0, 2) = 57  crew(0, 5) = 23""");
        edges.run("The place at the end of a new piece is ROLL left over by REPEAT: 120 by 24 is 0", """
            build(20, 20) = 0  begin(1, 0) = 0  lay(1) = 8  crew(1, 2) = 80  crew(1, 5) = 0
            clear() = 1  begin(1, 23) = 0  lay(1) = 7  crew(1, 2) = 79  crew(1, 5) = 1
            clear() = 1  begin(1, 1) = 23  lay(1) = 9  crew(1, 2) = 57  crew(1, 5) = 23""");
        edges.run("The place at the end of a new piece is ROLL left over by REPEAT: 121 by 24 is 1", """
            set(1, 121) = 120  build(20, 20) = 0  begin(1, 1) = 0  lay(1) = 9  crew(1, 2) = 81  crew(1, 5) = 0
            clear() = 1  begin(1, 0) = 1  lay(1) = 8  crew(1, 2) = 80  crew(1, 5) = 1
            clear() = 1  begin(1, 2) = 0  lay(1) = 10  crew(1, 2) = 58  crew(1, 5) = 23""");
        edges.run("The place at the end of a new piece is ROLL left over by REPEAT: 119 by 24 is 23", """
            set(1, 119) = 120  build(20, 20) = 0  begin(1, 23) = 0  lay(1) = 7  crew(1, 2) = 79  crew(1, 5) = 0
            clear() = 1  begin(1, 22) = 23  lay(1) = 6  crew(1, 2) = 78  crew(1, 5) = 1
            clear() = 1  begin(1, 0) = 22  lay(1) = 8  crew(1, 2) = 56  crew(1, 5) = 23""");
        edges.run("both crews have pieces of their own", """
            build(20, 20) = 0  build(20, 20) = 1  lay(0) = 0  crew(1, 2) = 0  crew(1, 3) = 0  crew(0, 2) = 80
            lay(1) = 8  crew(1, 2) = 80  crew(1, 3) = 1  crew(0, 2) = 80  crew(0, 3) = 1  count(7) = 240""");
    }

    private void piecesShorterThanThePattern() {
        edges.run("a piece of 40 and a pattern of 60, from below: places 40 to 59 are not on it", """
            set(0, 60) = 24  set(1, 40) = 120  build(10, 15) = 0  begin(0, 15) = 0
            lay(0) = 15  crew(0, 2) = 0  crew(0, 5) = 15  clear() = 1
            begin(0, 16) = 15  lay(0) = NOT_POSSIBLE  begin(0, 39) = 16  lay(0) = NOT_POSSIBLE
            begin(0, 40) = 39  lay(0) = NOT_POSSIBLE  begin(0, 41) = 40  lay(0) = NOT_POSSIBLE
            begin(0, 59) = 41  lay(0) = NOT_POSSIBLE  begin(0, 0) = 59  lay(0) = 0  crew(0, 2) = 15""");
        edges.run("a piece of 40 and a pattern of 60, from above: places 41 to 59 are not on it", """
            set(0, 60) = 24  set(1, 40) = 120  build(10, 15) = 0  begin(1, 40) = 0
            lay(1) = 15  crew(1, 2) = 15  crew(1, 5) = 0  clear() = 1
            begin(1, 41) = 40  lay(1) = NOT_POSSIBLE  begin(1, 59) = 41  lay(1) = NOT_POSSIBLE
            begin(1, 0) = 59  lay(1) = NOT_POSSIBLE  begin(1, 1) = 0  lay(1) = NOT_POSSIBLE
            begin(1, 24) = 1  lay(1) = NOT_POSSIBLE  begin(1, 25) = 24  lay(1) = 0  crew(1, 2) = 0  crew(1, 5) = 15""");
        edges.run("a piece that is as long as the pattern", """
            set(0, 40) = 24  set(1, 40) = 120  build(10, 15) = 0  lay(1) = 15  crew(1, 5) = 0  clear() = 1
            begin(1, 39) = 0  lay(1) = 14  crew(1, 5) = 1  clear() = 1
            begin(1, 24) = 39  lay(1) = NOT_POSSIBLE  begin(1, 25) = 24  lay(1) = 0  crew(1, 2) = 0  clear() = 1
            begin(0, 15) = 0  lay(0) = 15  clear() = 1  begin(0, 16) = 15  lay(0) = NOT_POSSIBLE
            begin(0, 39) = 16  lay(0) = NOT_POSSIBLE""");
    }

    private void justEnoughLeft() {
        edges.runOfEachCrew("as much is left as the length", """
            set(0, 40) = 24  set(1, 80) = 120  put("3*20/20") = 7  read() = 3
            lay(#) = 0  crew(#, 2) = 40  lay(#) = 0  crew(#, 2) = 0  crew(#, 3) = 1  crew(#, 4) = 0
            crew(#, 5) = 0  lay(#) = 0  crew(#, 2) = 40  crew(#, 3) = 2  crew(#, 4) = 1  crew(#, 5) = 0""");
        edges.runOfEachCrew("one less is left than the length", """
            set(0, 40) = 24  set(1, 79) = 120  put("2*20/20") = 7  read() = 2  begin(1, 39) = 0
            lay(#)  crew(#, 2) = 39  lay(#)  crew(#, 2) = 39  crew(#, 3) = 2  crew(#, 4) = 1  crew(#, 5) = 39""");
        edges.runOfEachCrew("one more is left than the length", """
            set(0, 40) = 24  set(1, 81) = 120  put("2*20/20") = 7  read() = 2  begin(1, 1) = 0
            lay(#)  crew(#, 2) = 41  lay(#)  crew(#, 2) = 1  crew(#, 3) = 1  crew(#, 4) = 0  crew(#, 5) = 0""");
    }

    private void noneLeft() {
        edges.runOfEachCrew("or there is none: nothing is left, and no trim comes from it", """
            set(0, 25) = 24  set(1, 25) = 120  put("3*10/15") = 7  read() = 3
            lay(#) = 0  crew(#, 2) = 0  crew(#, 3) = 1  lay(#) = 0  crew(#, 2) = 0  crew(#, 3) = 2  crew(#, 5) = 0
            lay(#) = 0  crew(#, 3) = 3  crew(#, 4) = 2  crew(#, 5) = 0  count(7) = 75  count(8) = 0  count(9) = 0""");
    }

    /** A step that is taken up leaves the piece 40 places on, so 10 are cut off to come round a pattern of 50. */
    private void cutAhead() {
        edges.runOfEachCrew("as much is left as trim and length together", """
            set(0, 50) = 24  set(1, 90) = 120  build(20, 20) = 0  begin(1, 40) = 0
            lay(#) = 0  crew(#, 2) = 50  takeUp(#) = 0  crew(#, 2) = 50  crew(#, 5) = 40
            lay(#) = 0  crew(#, 2) = 0  crew(#, 3) = 1  crew(#, 5) = 50""");
        edges.runOfEachCrew("one less is left than trim and length together", """
            set(0, 50) = 24  set(1, 89) = 120  build(20, 20) = 0  begin(1, 39) = 0
            lay(#)  crew(#, 2) = 49  takeUp(#) = 0  crew(#, 5) = 40
            lay(#)  crew(#, 2) = 49  crew(#, 3) = 2  crew(#, 4) = 1  crew(#, 5) = 89""");
        edges.runOfEachCrew("one more is left than trim and length together", """
            set(0, 50) = 24  set(1, 91) = 120  build(20, 20) = 0  begin(1, 41) = 0
            lay(#)  crew(#, 2) = 51  takeUp(#) = 0  crew(#, 5) = 40
            lay(#)  crew(#, 2) = 1  crew(#, 3) = 1  crew(#, 4) = 0  crew(#, 5) = 50""");
        edges.run("the least length (0 is one): the piece lies at its place already, from below", """
            build(10, 15) = 0  lay(0) = 0  takeUp(0) = 0  begin(0, 1) = 0  lay(0) = 1  crew(0, 2) = 70  crew(0, 5) = 25
            takeUp(0) = 0  begin(0, 1) = 1  lay(0) = 1  crew(0, 2) = 22  crew(0, 5) = 73  crew(0, 3) = 1""");
        edges.run("the least length (0 is one): the piece lies at its place already, from above", """
            build(10, 15) = 0  lay(1) = 23  takeUp(1) = 0  begin(1, 23) = 0  lay(1) = 22  crew(1, 2) = 70
            crew(1, 5) = 25
            takeUp(1) = 0  begin(1, 23) = 23  lay(1) = 22  crew(1, 2) = 22  crew(1, 5) = 73  crew(1, 3) = 1""");
        edges.run("a trim ahead of the new piece's first step, too, and all that is left of the old one", """
            set(0, 60) = 24  set(1, 120) = 120  build(10, 15) = 0  build(25, 40) = 1  build(25, 40) = 2
            begin(0, 30) = 0
            lay(0) = 30  crew(0, 2) = 65  crew(0, 5) = 30  lay(0) = 55  crew(0, 2) = 0  crew(0, 5) = 30
            lay(0) = 0  crew(0, 2) = 55  crew(0, 3) = 2  crew(0, 5) = 30""");
    }

    private void newPieceTooShort() {
        edges.run("a new piece is just long enough, and too short by 1, from below", """
            set(0, 30) = 24  set(1, 44) = 120  build(20, 20) = 0  begin(0, 5) = 0  lay(0) = NOT_POSSIBLE
            crew(0, 3) = 0  crew(0, 2) = 0  begin(0, 4) = 5  lay(0) = 4  crew(0, 2) = 0  crew(0, 5) = 4""");
        edges.run("a new piece is just long enough, and too short by 1, from above", """
            set(0, 30) = 24  set(1, 44) = 120  build(20, 20) = 0  begin(1, 9) = 0  lay(1) = NOT_POSSIBLE
            crew(1, 3) = 0  crew(1, 2) = 0  begin(1, 10) = 9  lay(1) = 0  crew(1, 2) = 0  crew(1, 5) = 4""");
        edges.run("the old piece and a new one are too short: the old one stays, from below", """
            set(0, 60) = 24  set(1, 70) = 120  build(10, 15) = 0  build(25, 40) = 1  begin(1, 10) = 0
            lay(0) = 0  crew(0, 2) = 45  lay(0) = NOT_POSSIBLE  crew(0, 2) = 45  crew(0, 3) = 1  crew(0, 4) = 0
            crew(0, 5) = 0  crew(0, 6) = 1  lay(1) = 5  crew(1, 2) = 5  count(12) = 1  count(13) = 20""");
        edges.run("the old piece and a new one are too short: the old one stays, from above", """
            set(0, 60) = 24  set(1, 70) = 120  build(25, 40) = 0  build(10, 15) = 1  begin(1, 10) = 0
            lay(1) = 45  crew(1, 2) = 45  lay(1) = NOT_POSSIBLE  crew(1, 2) = 45  crew(1, 3) = 1  crew(1, 4) = 0
            crew(1, 5) = 0  crew(1, 6) = 0  lay(0) = 0  crew(0, 2) = 5  count(12) = 1  count(13) = 20""");
        edges.run("too short without a trim: the length is 1 more than the piece", """
            set(1, 64) = 120  build(25, 40) = 0  begin(1, 16) = 0  lay(0) = NOT_POSSIBLE  lay(1) = NOT_POSSIBLE
            set(1, 65) = 64  begin(1, 17) = 16  lay(1) = 0  crew(1, 2) = 0  takeUp(1) = 0  lay(0) = 0
            crew(0, 2) = 0""");
        edges.run("the rest of a piece that lies at its place already, and is just long enough, is used to its end", """
            set(0, 40) = 24  set(1, 50) = 120  build(10, 15) = 0  lay(0) = 0  crew(0, 2) = 25  takeUp(0) = 0
            begin(0, 26) = 0  lay(0) = NOT_POSSIBLE  begin(0, 25) = 26  lay(0) = 25  crew(0, 2) = 0
            crew(0, 3) = 1  crew(0, 5) = 25""");
    }

    private void seamsAndRods() {
        edges.run("There is a seam at each piece that a crew takes, but its first one", """
            put("6*25/40") = 7  read() = 6  count(10) = 0  lay(0) = 0  count(10) = 0  lay(1) = 7  count(10) = 0
            lay(0) = 17  crew(0, 4) = 1  count(10) = 1  lay(1) = 14  crew(1, 4) = 1  count(10) = 2
            lay(0) = 10  crew(0, 4) = 2  crew(0, 3) = 3  count(10) = 3  takeUp(0) = 2  count(10) = 3
            clear() = 4  count(10) = 0  lay(0) = 0  count(10) = 0  lay(0) = 17  count(10) = 1""");
        edges.run("a seam, also where nothing is laid any more", """
            build(25, 40) = 0  lay(1) = 7  takeUp(1) = 0  count(10) = 0  lay(1) = 7  count(10) = 1  crew(1, 3) = 2
            takeUp(1) = 0  count(10) = 1  count(11) = 0  count(4) = 0""");
        edges.run("Each step that is laid gets a rod: none, 20, and 19", """
            count(11) = 0  put("20*10/38") = 8  read() = 20  count(11) = 0  20 x lay(1) = 0  count(11) = 20
            takeUp(1) = 0  count(11) = 19  lay(0) = 0  count(11) = 20  clear() = 20  count(11) = 0""");
    }
}
