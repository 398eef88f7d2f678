/**
 * Each error code of each method, in the order in which the document names them: where several errors apply at once,
 * the first one is returned. That a refused call changes nothing is checked by Edges for each of them.
 */
final class RefusedCallsTest {
    private static final String TWENTY = "put(\"20*10/15\") = 8  read() = 20\n";

    private final Edges edges = new Edges("refused calls");

    public static void main(String[] args) {
        RefusedCallsTest test = new RefusedCallsTest();
        test.set();
        test.build();
        test.read();
        test.begin();
        test.lay();
        test.takeUp();
        test.step();
        test.crew();
        test.count();
        test.ifMet();
        test.bestBeginning();
        test.ifLaid();
        test.put();
        test.undo();
        test.saveAndRestore();
        test.inAHouseInUse();
        test.edges.end();
    }

    private void set() {
        edges.run("set: BAD_VALUE if there is no such setting, or value is out of its range", """
            set(-1, 24) = BAD_VALUE  set(3, 24) = BAD_VALUE  set(MIN, 24) = BAD_VALUE  set(MAX, 5) = BAD_VALUE
            set(3, 0) = BAD_VALUE  set(-1, 0) = BAD_VALUE
            set(0, 1) = BAD_VALUE  set(0, 61) = BAD_VALUE  set(1, 19) = BAD_VALUE  set(1, 401) = BAD_VALUE
            set(2, -1) = BAD_VALUE  set(2, 10) = BAD_VALUE""");
        edges.runOfEachCrew("set: BAD_VALUE, then NOT_POSSIBLE if a crew has taken a piece", """
            build(20, 20) = 0  build(20, 20) = 1  lay(#)
            set(0, 2) = NOT_POSSIBLE  set(0, 24) = NOT_POSSIBLE  set(0, 60) = NOT_POSSIBLE  set(1, 20) = NOT_POSSIBLE
            set(1, 120) = NOT_POSSIBLE  set(1, 400) = NOT_POSSIBLE
            set(0, 1) = BAD_VALUE  set(0, 61) = BAD_VALUE  set(1, 19) = BAD_VALUE  set(1, 401) = BAD_VALUE
            set(2, -1) = BAD_VALUE  set(2, 10) = BAD_VALUE  set(-1, 24) = BAD_VALUE  set(3, 5) = BAD_VALUE
            takeUp(#)  set(0, 25) = NOT_POSSIBLE  set(1, 121) = NOT_POSSIBLE  set(0, 61) = BAD_VALUE""");
        edges.runOfEachCrew("set: BAD_VALUE, then NOT_POSSIBLE if a beginning would not be below it", """
            begin(#, 5) = 0  set(0, 5) = NOT_POSSIBLE  set(0, 2) = NOT_POSSIBLE  set(0, 1) = BAD_VALUE
            set(0, 0) = BAD_VALUE  set(0, MIN) = BAD_VALUE  set(0, 6) = 24  set(0, 5) = NOT_POSSIBLE""");
        edges.runOfEachCrew("set: NOT_POSSIBLE for both reasons at once", """
            build(20, 20) = 0  begin(#, 5) = 0  lay(#)  set(0, 5) = NOT_POSSIBLE  set(0, 1) = BAD_VALUE
            set(1, 100) = NOT_POSSIBLE  set(1, 4) = BAD_VALUE  set(2, 10) = BAD_VALUE""");
    }

    private void build() {
        edges.run("build: BAD_VALUE if an argument is out of range", """
            build(9, 15) = BAD_VALUE  build(26, 40) = BAD_VALUE  build(10, 14) = BAD_VALUE  build(25, 41) = BAD_VALUE
            build(9, 14) = BAD_VALUE  build(26, 41) = BAD_VALUE  build(MIN, MAX) = BAD_VALUE""");
        edges.runOfEachCrew("build: BAD_VALUE, then NOT_POSSIBLE, then TOO_MANY if there are 20", TWENTY + """
            build(10, 15) = TOO_MANY  build(25, 40) = TOO_MANY  build(9, 15) = BAD_VALUE  build(10, 41) = BAD_VALUE
            lay(#)  build(10, 15) = NOT_POSSIBLE  build(26, 15) = BAD_VALUE  build(10, 14) = BAD_VALUE
            takeUp(#)  build(10, 15) = TOO_MANY  build(9, 14) = BAD_VALUE""");
        edges.runOfEachCrew("build: BAD_VALUE, then NOT_POSSIBLE if a step is laid", """
            build(10, 15) = 0  lay(#)  build(10, 15) = NOT_POSSIBLE  build(9, 15) = BAD_VALUE
            build(26, 15) = BAD_VALUE  build(10, 14) = BAD_VALUE  build(10, 41) = BAD_VALUE""");
    }

    private void read() {
        edges.run("read: BAD_TEXT if the pad has a fault", """
            read() = BAD_TEXT  put("10/") = 3  read() = BAD_TEXT  put("x") = 4  read() = BAD_TEXT""");
        edges.runOfEachCrew("read: BAD_TEXT, then NOT_POSSIBLE if a step is laid", """
            build(10, 15) = 0  lay(#)  read() = BAD_TEXT  put("10/15") = 5  read() = NOT_POSSIBLE  put(";") = 6
            read() = BAD_TEXT""");
        edges.runOfEachCrew("read: BAD_TEXT, then NOT_POSSIBLE, then TOO_MANY if more than 20", TWENTY + """
            read() = BAD_TEXT  put("10/15") = 5  read() = TOO_MANY  lay(#)  read() = NOT_POSSIBLE
            put(";") = 6  read() = BAD_TEXT  takeUp(#)  read() = BAD_TEXT  put("20*10/15") = 14  read() = TOO_MANY
            put("0") = 15  read() = BAD_TEXT""");
        edges.run("read: BAD_TEXT of a text that tells more than 20 steps ahead of its fault", """
            put("20*10/15") = 8  put(";20*10/1") = 16  read() = BAD_TEXT  put("4") = 17  read() = BAD_TEXT
            wipe() = 17  put("20*10/15") = 8  put(";20*10/1") = 16  put("5") = 17  read() = TOO_MANY""");
    }

    private void begin() {
        edges.runOfEachCrew("begin: NO_SUCH, then BAD_VALUE if place is out of range, then NOT_POSSIBLE", """
            begin(-1, 0) = NO_SUCH  begin(2, 0) = NO_SUCH  begin(2, 24) = NO_SUCH  begin(-1, -1) = NO_SUCH
            begin(MIN, 0) = NO_SUCH  begin(MAX, MAX) = NO_SUCH
            begin(#, -1) = BAD_VALUE  begin(#, 24) = BAD_VALUE  begin(#, MIN) = BAD_VALUE  begin(#, MAX) = BAD_VALUE
            build(20, 20) = 0  build(20, 20) = 1  lay(#)  begin(#, 0) = NOT_POSSIBLE  begin(#, 23) = NOT_POSSIBLE
            begin(#, -1) = BAD_VALUE  begin(#, 24) = BAD_VALUE  begin(-1, 0) = NO_SUCH  begin(2, 0) = NO_SUCH
            begin(2, 24) = NO_SUCH  begin(~, 24) = BAD_VALUE  begin(~, 23) = 0""");
    }

    private void lay() {
        edges.runOfEachCrew("lay: NO_SUCH, then NOT_POSSIBLE if all steps are laid, or it cannot be laid", """
            lay(-1) = NO_SUCH  lay(2) = NO_SUCH  lay(#) = NOT_POSSIBLE  build(20, 20) = 0  set(1, 39) = 120
            lay(#) = NOT_POSSIBLE  lay(~) = NOT_POSSIBLE  lay(-1) = NO_SUCH  lay(2) = NO_SUCH  set(1, 400) = 39
            lay(#)  lay(#) = NOT_POSSIBLE  lay(~) = NOT_POSSIBLE  lay(-1) = NO_SUCH  lay(2) = NO_SUCH
            lay(MIN) = NO_SUCH  lay(MAX) = NO_SUCH""");
        edges.runOfEachCrew("lay: it cannot be laid from the rest of a piece, nor from a new one", """
            set(0, 60) = 24  set(1, 70) = 120  build(25, 40) = 0  begin(1, 10) = 0  lay(#)  crew(#, 2) = 5
            takeUp(#) = 0  begin(0, 6) = 0  begin(1, 4) = 10  lay(#) = NOT_POSSIBLE  crew(#, 2) = 5  crew(#, 3) = 1
            crew(#, 5) = 65  begin(0, 5) = 6  begin(1, 5) = 4  lay(#)  crew(#, 2) = 0  crew(#, 3) = 2
            crew(#, 5) = 75""");
    }

    private void takeUp() {
        edges.runOfEachCrew("takeUp: NO_SUCH, then NOT_POSSIBLE if it laid none", """
            takeUp(-1) = NO_SUCH  takeUp(2) = NO_SUCH  takeUp(#) = NOT_POSSIBLE  build(20, 20) = 0
            takeUp(#) = NOT_POSSIBLE  lay(~)  takeUp(#) = NOT_POSSIBLE  takeUp(-1) = NO_SUCH  takeUp(2) = NO_SUCH
            takeUp(MIN) = NO_SUCH  takeUp(MAX) = NO_SUCH  takeUp(~) = 0  takeUp(~) = NOT_POSSIBLE""");
    }

    private void step() {
        edges.runOfEachCrew("step: NO_SUCH, then BAD_VALUE, then NONE", """
            step(0, 0) = NO_SUCH  step(0, 8) = NO_SUCH  step(-1, -1) = NO_SUCH  build(20, 20) = 0  build(20, 20) = 1
            step(2, 0) = NO_SUCH  step(2, 5) = NO_SUCH  step(2, 8) = NO_SUCH  step(-1, 8) = NO_SUCH
            step(0, 8) = BAD_VALUE  step(1, -1) = BAD_VALUE  step(0, 5) = NONE  lay(#)  step(#, 8) = BAD_VALUE
            step(#, -1) = BAD_VALUE  step(~, 8) = BAD_VALUE  step(~, 5) = NONE  step(2, 5) = NO_SUCH
            step(20, 9) = NO_SUCH  step(MAX, MAX) = NO_SUCH  step(MIN, MIN) = NO_SUCH""");
    }

    private void crew() {
        edges.run("crew: NO_SUCH, then BAD_VALUE, then NONE", """
            crew(-1, 0) = NO_SUCH  crew(2, 0) = NO_SUCH  crew(2, 7) = NO_SUCH  crew(-1, -1) = NO_SUCH
            crew(2, 6) = NO_SUCH  crew(0, 7) = BAD_VALUE  crew(1, 7) = BAD_VALUE  crew(0, -1) = BAD_VALUE
            crew(1, -1) = BAD_VALUE  crew(0, 6) = NONE  crew(MIN, MIN) = NO_SUCH  crew(MAX, MAX) = NO_SUCH
            crew(0, MAX) = BAD_VALUE  crew(1, MIN) = BAD_VALUE""");
    }

    private void count() {
        edges.run("count: BAD_VALUE, then NONE", """
            count(-1) = BAD_VALUE  count(17) = BAD_VALUE  count(MIN) = BAD_VALUE  count(MAX) = BAD_VALUE
            count(12) = NONE  build(20, 20) = 0  build(20, 20) = 1  lay(0) = 0  count(-1) = BAD_VALUE
            count(17) = BAD_VALUE  count(13) = NONE  lay(1) = 8  count(-1) = BAD_VALUE  count(17) = BAD_VALUE""");
    }

    private void ifMet() {
        edges.run("ifMet: NO_SUCH if there is no such step, or it is the step 0, then BAD_VALUE", """
            ifMet(0, 0) = NO_SUCH  ifMet(1, 2) = NO_SUCH  ifMet(-1, -1) = NO_SUCH  build(20, 20) = 0
            ifMet(0, 1) = NO_SUCH  ifMet(1, 1) = NO_SUCH  ifMet(0, 2) = NO_SUCH  build(20, 20) = 1
            ifMet(0, 0) = NO_SUCH  ifMet(0, -1) = NO_SUCH  ifMet(0, 2) = NO_SUCH  ifMet(2, 0) = NO_SUCH
            ifMet(2, 2) = NO_SUCH  ifMet(-1, 0) = NO_SUCH  ifMet(MIN, MIN) = NO_SUCH  ifMet(MAX, MAX) = NO_SUCH
            ifMet(1, -1) = BAD_VALUE  ifMet(1, 2) = BAD_VALUE  ifMet(1, MIN) = BAD_VALUE  ifMet(1, MAX) = BAD_VALUE""");
    }

    private void bestBeginning() {
        edges.run("bestBeginning: NO_SUCH, then NOT_POSSIBLE if there are fewer than 2 steps", """
            bestBeginning(-1) = NO_SUCH  bestBeginning(2) = NO_SUCH  bestBeginning(0) = NOT_POSSIBLE
            bestBeginning(1) = NOT_POSSIBLE  build(20, 20) = 0  bestBeginning(-1) = NO_SUCH  bestBeginning(2) = NO_SUCH
            bestBeginning(0) = NOT_POSSIBLE  bestBeginning(1) = NOT_POSSIBLE  build(20, 20) = 1
            bestBeginning(-1) = NO_SUCH  bestBeginning(2) = NO_SUCH  bestBeginning(0) = 16  undo() = 1
            bestBeginning(0) = NOT_POSSIBLE""");
    }

    private void ifLaid() {
        edges.run("ifLaid: NO_SUCH if step is out of range, or there are no steps, then NONE", """
            ifLaid(-1) = NO_SUCH  ifLaid(0) = NO_SUCH  ifLaid(1) = NO_SUCH  set(1, 20) = 120  ifLaid(0) = NO_SUCH
            build(20, 20) = 0  ifLaid(-1) = NO_SUCH  ifLaid(2) = NO_SUCH  ifLaid(MIN) = NO_SUCH  ifLaid(MAX) = NO_SUCH
            ifLaid(0) = NONE  ifLaid(1) = NONE  set(1, 400) = 20  ifLaid(-1) = NO_SUCH  ifLaid(2) = NO_SUCH
            ifLaid(0) = 16  ifLaid(1) = 0""");
    }

    private void put() {
        edges.run("put: BAD_VALUE, then TOO_MANY if the pad would be longer than 60", """
            put(0) = BAD_VALUE  put(32) = BAD_VALUE  put(127) = BAD_VALUE  put(0x3100) = BAD_VALUE
            put(0x310031) = BAD_VALUE  7 x put("10/15;10")  put("10/15") = TOO_MANY  put(0x31302f3120) = BAD_VALUE
            put(0x7f31302f31) = BAD_VALUE  put(0x3100302f3135) = BAD_VALUE  put("10/1") = 60  put("5") = TOO_MANY
            put(32) = BAD_VALUE  put(127) = BAD_VALUE  put(0) = BAD_VALUE  put(0x3100) = BAD_VALUE
            put("20*10/15") = TOO_MANY  put(-1) = BAD_VALUE  put(MIN) = BAD_VALUE  put(MAX) = BAD_VALUE""");
    }

    private void undo() {
        edges.run("undo: NOT_POSSIBLE if there is none", """
            undo() = NOT_POSSIBLE  put("10/15") = 5  save(0) = 0  wipe() = 5  undo() = NOT_POSSIBLE  clear() = 0
            undo() = 0  undo() = NOT_POSSIBLE""");
    }

    private void saveAndRestore() {
        edges.run("save: BAD_VALUE; restore: BAD_VALUE, then NOT_POSSIBLE if nothing was saved in it", """
            build(20, 20) = 0  save(-1) = BAD_VALUE  save(2) = BAD_VALUE  save(MIN) = BAD_VALUE  save(MAX) = BAD_VALUE
            restore(-1) = BAD_VALUE  restore(2) = BAD_VALUE  restore(0) = NOT_POSSIBLE  restore(1) = NOT_POSSIBLE
            save(0) = 1  restore(1) = NOT_POSSIBLE  restore(-1) = BAD_VALUE  restore(2) = BAD_VALUE  save(1) = 1
            lay(0) = 0  save(-1) = BAD_VALUE  save(2) = BAD_VALUE  restore(-1) = BAD_VALUE  restore(2) = BAD_VALUE
            restore(MIN) = BAD_VALUE  restore(MAX) = BAD_VALUE""");
    }

    /** A call that returns an error changes nothing, with steps laid, a pad, both slots and a full history. */
    private void inAHouseInUse() {
        edges.run("each call that is refused, in a house in use", """
            set(0, 30) = 24  set(2, 3) = 0  put("4*20/20;") = 8  put("10/15") = 13  read() = 5  begin(0, 7) = 0
            save(0) = 5  begin(1, 29) = 0  lay(0) = 7  lay(1) = 4  lay(0) = 17  takeUp(0) = 1  save(1) = 5
            put("3*11/22") = 7  count(16) = 6
            set(0, 31) = NOT_POSSIBLE  set(1, 121) = NOT_POSSIBLE  set(2, 10) = BAD_VALUE  set(3, 3) = BAD_VALUE
            build(10, 15) = NOT_POSSIBLE  build(9, 15) = BAD_VALUE  read() = NOT_POSSIBLE
            begin(0, 8) = NOT_POSSIBLE  begin(1, 8) = NOT_POSSIBLE  begin(0, 30) = BAD_VALUE  begin(2, 0) = NO_SUCH
            lay(2) = NO_SUCH  takeUp(2) = NO_SUCH  step(5, 0) = NO_SUCH  step(4, 8) = BAD_VALUE
            crew(2, 0) = NO_SUCH  crew(0, 7) = BAD_VALUE  count(17) = BAD_VALUE
            ifMet(5, 0) = NO_SUCH  ifMet(4, 2) = BAD_VALUE  bestBeginning(2) = NO_SUCH  ifLaid(6) = NO_SUCH
            put(0) = BAD_VALUE  save(2) = BAD_VALUE  restore(2) = BAD_VALUE
            lay(1)  lay(1)  lay(1)  lay(0) = NOT_POSSIBLE  lay(1) = NOT_POSSIBLE  count(14) = 0
            takeUp(0) = 0  takeUp(0) = NOT_POSSIBLE  clear() = 4  read() = 8  7 x put("10/15;10")
            put("20*10") = TOO_MANY  read() = BAD_TEXT  takeUp(1) = NOT_POSSIBLE
            undo()  undo()  undo()  undo()  undo()  undo() = 0  undo() = NOT_POSSIBLE""");
    }
}
