/** Promises 2 to 5: set, build, read, begin. Their refused calls stand in RefusedCallsTest, too. */
final class EdgesOfBuildingTest {
    private final Edges edges = new Edges("edges of building");

    public static void main(String[] args) {
        EdgesOfBuildingTest test = new EdgesOfBuildingTest();
        test.setWhenAPieceIsTaken();
        test.setAndBeginnings();
        test.setIsAChange();
        test.build();
        test.readUpToTwenty();
        test.readAndThePad();
        test.readRefused();
        test.begin();
        test.edges.end();
    }

    private void setWhenAPieceIsTaken() {
        edges.runOfEachCrew("NOT_POSSIBLE for REPEAT and ROLL, if a crew has taken a piece", """
            build(20, 20) = 0  build(20, 20) = 1  set(0, 30) = 24  set(1, 100) = 120  lay(#)
            set(0, 2) = NOT_POSSIBLE  set(0, 30) = NOT_POSSIBLE  set(0, 60) = NOT_POSSIBLE
            set(1, 20) = NOT_POSSIBLE  set(1, 100) = NOT_POSSIBLE  set(1, 400) = NOT_POSSIBLE
            set(2, 9) = 0  set(2, 0) = 9  count(0) = 30  count(1) = 100  count(2) = 0
            takeUp(#)  count(4) = 0  set(0, 31) = NOT_POSSIBLE  set(1, 101) = NOT_POSSIBLE  set(2, 3) = 0
            clear() = 0  set(0, 31) = 30  set(1, 101) = 100""");
        edges.runOfEachCrew("a piece is given back by undo, and taken again by restore", """
            build(20, 20) = 0  lay(#)  save(1) = 1  set(1, 121) = NOT_POSSIBLE  undo() = 1
            set(1, 121) = 120  set(0, 25) = 24  restore(1) = 1  set(1, 121) = NOT_POSSIBLE
            set(0, 25) = NOT_POSSIBLE  count(0) = 24  count(1) = 120""");
        edges.run("a step that could not be laid takes no piece", """
            build(10, 15) = 0  set(1, 24) = 120  lay(0) = NOT_POSSIBLE  lay(1) = NOT_POSSIBLE  set(0, 25) = 24
            set(1, 25) = 24  lay(0) = 0  set(1, 26) = NOT_POSSIBLE""");
    }

    private void setAndBeginnings() {
        edges.runOfEachCrew("NOT_POSSIBLE for REPEAT, if a beginning would not be below it", """
            begin(#, 23) = 0  set(0, 23) = NOT_POSSIBLE  set(0, 2) = NOT_POSSIBLE  set(0, 24) = 24
            set(0, 60) = 24  begin(#, 59) = 23  set(0, 59) = NOT_POSSIBLE  set(0, 60) = 60
            begin(#, 1) = 59  set(0, 2) = 60  begin(#, 0) = 1  set(0, 2) = 2  set(0, 1) = BAD_VALUE
            set(1, 20) = 120  set(2, 9) = 0""");
        edges.run("the larger one of both beginnings counts", """
            begin(0, 10) = 0  begin(1, 12) = 0  set(0, 12) = NOT_POSSIBLE  set(0, 11) = NOT_POSSIBLE
            set(0, 10) = NOT_POSSIBLE  set(0, 13) = 24  begin(1, 3) = 12  set(0, 10) = NOT_POSSIBLE
            set(0, 11) = 13""");
        edges.run("a beginning is no matter to ROLL and SLACK", """
            set(0, 60) = 24  begin(0, 59) = 0  begin(1, 59) = 0  set(1, 20) = 120  set(2, 9) = 0""");
    }

    private void setIsAChange() {
        edges.run("set returns the previous value, and is a change, also if nothing is different then", """
            set(0, 24) = 24  set(1, 120) = 120  set(2, 0) = 0  count(16) = 3
            set(0, 2) = 24  set(1, 20) = 120  set(2, 9) = 0  count(16) = 6
            undo() = 5  count(2) = 0  undo() = 4  count(1) = 120  undo() = 3  count(0) = 24""");
    }

    private void build() {
        edges.runOfEachCrew("NOT_POSSIBLE if a step is laid", """
            build(10, 15) = 0  build(10, 15) = 1  lay(#)  build(10, 15) = NOT_POSSIBLE
            build(25, 40) = NOT_POSSIBLE  takeUp(#)  crew(#, 3) = 1  build(25, 40) = 2  lay(#)
            build(10, 15) = NOT_POSSIBLE  clear() = 1  build(10, 15) = 3""");
        edges.run("a step is built above what was taken up, and laid from above", """
            build(20, 20) = 0  lay(1) = 8  takeUp(1) = 0  build(10, 15) = 1  crew(1, 6) = 1  crew(0, 6) = 0
            lay(1) = 23  crew(1, 3) = 1  crew(1, 2) = 47  crew(1, 5) = 48  lay(1) = 7  crew(1, 2) = 7
            crew(1, 5) = 48""");
        edges.run("TOO_MANY if there are 20: 19, 20 and 21", """
            put("19*10/15") = 8  read() = 19  build(25, 40) = 19  build(10, 15) = TOO_MANY  count(3) = 20
            undo() = 1  build(25, 39) = 19  count(5) = 539""");
    }

    private void readUpToTwenty() {
        edges.run("1 and 20 steps of a pad", """
            put("10/15") = 5  read() = 1  undo() = 0  put("20*25/40") = 8  read() = 20  count(5) = 1300""");
        edges.run("2 to 20 steps that are alike", """
            put("2*10/15") = 7  read() = 2  put("9*10/15") = 7  read() = 11  put("9*25/40") = 7  read() = 20
            step(10, 2) = 25  step(11, 2) = 65  step(19, 2) = 65  count(5) = 860""");
        edges.run("TOO_MANY if there would be more than 20: above none, 1, 19 and 20", """
            put("20*10/15") = 8  put(";10/15") = 14  read() = TOO_MANY  wipe() = 14
            build(10, 15) = 0  put("20*10/15") = 8  read() = TOO_MANY  wipe() = 8  put("19*10/15") = 8  read() = 20
            put("10/15") = 5  read() = TOO_MANY  undo() = 1  build(25, 40) = 1  read() = 3
            put("17*10/15") = 8  read() = 20  put("2*10/15") = 7  read() = TOO_MANY  count(15) = 7  count(3) = 20""");
        edges.run("a full pad that fills empty stairs: 60 characters, 20 steps", """
            put("2*10/15;") = 8  put("2*11/16;") = 16  put("10*12/17") = 24  put(";13/18;1") = 32  put("4/19;15/") = 40
            put("20;16/21") = 48  put(";17/22;2") = 56  put("5/40") = 60  fault() = NONE  read() = 20  count(15) = 0
            step(0, 0) = 10  step(1, 1) = 15  step(2, 0) = 11  step(3, 1) = 16  step(4, 0) = 12  step(13, 1) = 17
            step(14, 0) = 13  step(15, 0) = 14  step(16, 0) = 15  step(17, 0) = 16  step(18, 0) = 17
            step(19, 0) = 25  step(19, 1) = 40""");
        edges.run("a full pad that tells 120 steps", """
            6 x put("20*25/40")  fault() = 8  wipe() = 48
            put("20*10/15") = 8  put(";20*10/1") = 16  put("5;20*10/") = 24  put("15;20*10") = 32  put("/15;20*1") = 40
            put("0/15;20*") = 48  put("10/15") = 53  fault() = NONE  read() = TOO_MANY
            put(";25/40") = 59  fault() = NONE  read() = TOO_MANY  count(3) = 0  count(15) = 59  wipe() = 59""");
    }

    private void readAndThePad() {
        edges.run("BAD_TEXT if the pad has a fault: nothing, at its first character, at its end, behind its end", """
            read() = BAD_TEXT  put("x") = 1  read() = BAD_TEXT  wipe() = 1  put("10/14") = 5  read() = BAD_TEXT
            wipe() = 5  put("10/15;") = 6  read() = BAD_TEXT  wipe() = 6  put("10/1") = 4  read() = BAD_TEXT
            put("5") = 5  read() = 1  read() = BAD_TEXT  count(3) = 1""");
        edges.run("read empties the pad; undo does not fill it, and it can be filled anew", """
            put("2*10/15") = 7  read() = 2  count(15) = 0  fault() = 0  undo() = 0  count(15) = 0  count(3) = 0
            7 x put("20*25/40")  put("20*2") = 60  wipe() = 60  put("25/40") = 5  read() = 1  step(0, 2) = 65""");
    }

    private void readRefused() {
        edges.runOfEachCrew("NOT_POSSIBLE if a step is laid", """
            build(10, 15) = 0  build(10, 15) = 1  put("10/16") = 5  lay(#)  read() = NOT_POSSIBLE
            count(15) = 5  takeUp(#)  read() = 3  step(2, 1) = 16  count(15) = 0""");
    }

    private void begin() {
        edges.runOfEachCrew("place: 0 to REPEAT less 1", """
            begin(#, 0) = 0  begin(#, 23) = 0  begin(#, 24) = BAD_VALUE  begin(#, -1) = BAD_VALUE
            begin(#, MIN) = BAD_VALUE  begin(#, MAX) = BAD_VALUE  begin(#, 23) = 23  crew(#, 0) = 23  crew(~, 0) = 0
            begin(#, 1) = 23  set(0, 2) = 24  begin(#, 2) = BAD_VALUE  begin(#, 1) = 1  begin(#, 0) = 1
            set(0, 60) = 2  begin(#, 60) = BAD_VALUE  begin(#, 59) = 0  begin(~, 58) = 0  crew(#, 0) = 59""");
        edges.runOfEachCrew("NOT_POSSIBLE if this crew laid a step, the other one may", """
            put("3*20/20") = 7  read() = 3  lay(#)  begin(#, 0) = NOT_POSSIBLE  begin(#, 5) = NOT_POSSIBLE
            begin(~, 5) = 0  lay(#)  takeUp(#)  begin(#, 5) = NOT_POSSIBLE  takeUp(#)  begin(#, 5) = 0
            lay(~)  begin(~, 6) = NOT_POSSIBLE  begin(#, 6) = 5  clear() = 1  begin(~, 6) = 5""");
        edges.run("a beginning is a change, also the same one", """
            begin(0, 0) = 0  begin(1, 0) = 0  begin(0, 1) = 0  count(16) = 3  undo() = 2  crew(0, 0) = 0
            undo() = 1""");
    }
}
