/** Promises 19 to 21: undo, save, restore. */
final class EdgesOfUndoTest {
    private final Edges edges = new Edges("edges of undo");

    public static void main(String[] args) {
        EdgesOfUndoTest test = new EdgesOfUndoTest();
        test.nothingToUndo();
        test.upToSix();
        test.eachChange();
        test.whatIsNoChange();
        test.notThePadTheSlotsAndTheHistory();
        test.undoBetweenChanges();
        test.save();
        test.saved();
        test.restore();
        test.restored();
        test.edges.end();
    }

    private void nothingToUndo() {
        edges.run("NOT_POSSIBLE if there is none: at first, and when all is undone", """
            undo() = NOT_POSSIBLE  clear() = 0  undo() = 0  undo() = NOT_POSSIBLE  undo() = NOT_POSSIBLE
            build(10, 15) = 0  build(10, 15) = 1  undo() = 1  undo() = 0  undo() = NOT_POSSIBLE  count(3) = 0""");
    }

    private void upToSix() {
        edges.run("a history of at most 6 states: 5", """
            begin(0, 1)  begin(0, 2)  begin(0, 3)  begin(0, 4)  begin(0, 5)  count(16) = 5
            undo() = 4  crew(0, 0) = 4  undo() = 3  crew(0, 0) = 3  undo() = 2  crew(0, 0) = 2  undo() = 1
            crew(0, 0) = 1  undo() = 0  crew(0, 0) = 0  undo() = NOT_POSSIBLE""");
        edges.run("a history of at most 6 states: 6", """
            begin(0, 1)  begin(0, 2)  begin(0, 3)  begin(0, 4)  begin(0, 5)  begin(0, 6) = 5  count(16) = 6
            undo() = 5  crew(0, 0) = 5  undo() = 4  crew(0, 0) = 4  undo() = 3  crew(0, 0) = 3  undo() = 2
            crew(0, 0) = 2  undo() = 1  crew(0, 0) = 1  undo() = 0  crew(0, 0) = 0  undo() = NOT_POSSIBLE""");
        edges.run("when one more is recorded, the oldest one is dropped: 7", """
            begin(0, 1)  begin(0, 2)  begin(0, 3)  begin(0, 4)  begin(0, 5)  begin(0, 6)  begin(0, 7) = 6  count(16) = 6
            undo() = 5  crew(0, 0) = 6  undo() = 4  crew(0, 0) = 5  undo() = 3  crew(0, 0) = 4  undo() = 2
            crew(0, 0) = 3  undo() = 1  crew(0, 0) = 2  undo() = 0  crew(0, 0) = 1  undo() = NOT_POSSIBLE
            crew(0, 0) = 1""");
        edges.run("20 changes: steps go back to 14", """
            20 x build(10, 15)  count(16) = 6  undo() = 5  count(3) = 19  undo() = 4  undo() = 3  undo() = 2  undo() = 1
            undo() = 0  count(3) = 14  count(5) = 350  undo() = NOT_POSSIBLE  build(11, 16) = 14  undo() = 0
            count(5) = 350""");
    }

    /** A change, with calls ahead of it; it is undone then, and Probe tells whether all is as it was. */
    private void undone(String ahead, String change) {
        edges.run("undo of " + change, ahead + "\n" + change + "\nundo()");
        Due due = new Due("undo of " + change);
        MeetingCarpets x = new MeetingCarpets();
        for (String call : ahead.split("  ")) {
            due.is(call, Calls.make(x, call) >= 0 ? 1 : 0, 1);
        }
        String before = Look.whatStands(x);
        int undoable = x.count(16);
        due.is(change + " is no error", Calls.make(x, change) >= 0 ? 1 : 0, 1);
        due.is("count(16)", x.count(16), Math.min(6, undoable + 1));
        due.is("undo()", x.undo(), Math.min(5, undoable));
        due.same("look", Look.whatStands(x), before);
        due.end();
    }

    private void eachChange() {
        String built = "put(\"10/15;\")  put(\"20/20\")  read()";
        String laid = "begin(0, 3)  put(\"10/15;\")  put(\"3*25/40\")  read()  lay(0)  lay(1)  lay(1)  takeUp(1)";
        undone("clear()", "set(0, 60)");
        undone("clear()", "set(1, 400)");
        undone("clear()", "set(2, 9)");
        undone(built, "build(25, 40)");
        undone(built + "  put(\"18*25/40\")", "read()");
        undone(built, "begin(0, 23)");
        undone(built, "begin(1, 23)");
        undone(built, "lay(0)");
        undone(built, "lay(1)");
        undone(laid, "lay(0)");
        undone(laid, "lay(1)");
        undone(laid, "takeUp(0)");
        undone(laid, "takeUp(1)");
        undone(laid, "clear()");
        undone(laid, "set(2, 9)");
        undone(built + "  save(1)  set(0, 60)  set(1, 400)  set(2, 9)  begin(0, 59)  begin(1, 59)", "restore(1)");
        undone(laid + "  save(0)  clear()  build(10, 16)  set(1, 400)", "restore(0)");
    }

    private void whatIsNoChange() {
        edges.run("a change that returns no error records the state (also if nothing is different then)", """
            set(0, 24) = 24  count(16) = 1  begin(0, 0) = 0  count(16) = 2  clear() = 0  count(16) = 3  save(0) = 0
            count(16) = 3  restore(0) = 0  count(16) = 4  put("x") = 1  fault() = 0  wipe() = 1  count(16) = 4
            step(0, 0) = NO_SUCH  crew(0, 0) = 0  count(3) = 0  ifMet(1, 0) = NO_SUCH  bestBeginning(0) = NOT_POSSIBLE
            ifLaid(0) = NO_SUCH  leastTrim() = NONE  count(16) = 4""");
        edges.run("a change that returns an error records nothing", """
            clear() = 0  set(3, 0) = BAD_VALUE  set(0, 1) = BAD_VALUE  build(9, 15) = BAD_VALUE  read() = BAD_TEXT
            begin(2, 0) = NO_SUCH  begin(0, 24) = BAD_VALUE  lay(2) = NO_SUCH  lay(0) = NOT_POSSIBLE
            takeUp(2) = NO_SUCH  takeUp(0) = NOT_POSSIBLE  restore(2) = BAD_VALUE  restore(0) = NOT_POSSIBLE
            save(2) = BAD_VALUE  put(0) = BAD_VALUE  count(16) = 1  undo() = 0""");
    }

    private void notThePadTheSlotsAndTheHistory() {
        edges.run("everything except the pad: put, wipe and what read emptied stay", """
            build(10, 15) = 0  put("10/16") = 5  undo() = 0  count(15) = 5  fault() = NONE  build(10, 15) = 0
            wipe() = 5  undo() = 0  count(15) = 0  put("2*10/16") = 7  read() = 2  put("11/17") = 5  undo() = 0
            count(15) = 5  read() = 1  step(0, 1) = 17""");
        edges.run("everything except the slots: what is saved stays saved", """
            build(10, 15) = 0  save(0) = 1  undo() = 0  count(3) = 0  restore(0) = 1  count(3) = 1  undo() = 0
            count(3) = 0  restore(0) = 1  undo() = 0  restore(1) = NOT_POSSIBLE""");
        edges.run("everything except the slots: both, filled ahead of the change and behind it", """
            save(0) = 0  build(10, 15) = 0  save(1) = 1  undo() = 0  restore(1) = 1  undo() = 0  restore(0) = 0
            undo() = 0  restore(1) = 1  restore(0) = 0""");
        edges.run("undo is no change itself", """
            build(10, 15) = 0  build(10, 16) = 1  undo() = 1  undo() = 0  undo() = NOT_POSSIBLE  count(16) = 0""");
    }

    private void undoBetweenChanges() {
        edges.run("a change behind an undo: the state ahead of it comes back", """
            6 x begin(1, 3)  undo() = 5  begin(1, 9) = 3  count(16) = 6  begin(1, 10) = 9  count(16) = 6
            undo() = 5  crew(1, 0) = 9  undo() = 4  crew(1, 0) = 3  begin(1, 11) = 3  count(16) = 5
            undo() = 4  crew(1, 0) = 3  undo() = 3  undo() = 2  undo() = 1  undo() = 0  undo() = NOT_POSSIBLE""");
        edges.run("a history that was full, empty and is full again", """
            6 x clear()  undo() = 5  undo() = 4  undo() = 3  undo() = 2  undo() = 1  undo() = 0
            begin(0, 1)  begin(0, 2)  begin(0, 3)  begin(0, 4)  begin(0, 5)  begin(0, 6)  begin(0, 7)  begin(0, 8) = 7
            undo() = 5  crew(0, 0) = 7  undo() = 4  undo() = 3  undo() = 2  undo() = 1  crew(0, 0) = 3  undo() = 0
            crew(0, 0) = 2  undo() = NOT_POSSIBLE""");
    }

    private void save() {
        edges.run("slot 0 or 1, and how many steps there are: 0, 1, 20", """
            save(-1) = BAD_VALUE  save(2) = BAD_VALUE  save(MIN) = BAD_VALUE  save(MAX) = BAD_VALUE  save(0) = 0
            build(10, 15) = 0  save(1) = 1  put("19*10/15") = 8  read() = 20  save(0) = 20  save(2) = BAD_VALUE
            restore(1) = 1  restore(0) = 20""");
        edges.run("overwrites what was saved there, and not the other slot", """
            build(10, 15) = 0  save(0) = 1  save(1) = 1  build(11, 16) = 1  save(0) = 2  build(12, 17) = 2
            restore(1) = 1  restore(0) = 2  step(1, 1) = 16  save(1) = 2  restore(1) = 2""");
    }

    private void saved() {
        edges.run("Saves everything except the pad, the history and the slots", """
            set(0, 60) = 24  set(1, 400) = 120  set(2, 9) = 0  begin(0, 59) = 0  begin(1, 58) = 0
            put("20*25/40") = 8  read() = 20  lay(0) = 59  lay(1) = 53  takeUp(1) = 19  put("10/1") = 4  save(0) = 20
            clear() = 1  wipe() = 4  set(0, 61) = BAD_VALUE  begin(0, 0) = 59  begin(1, 1) = 58  set(0, 2) = 60
            set(1, 20) = 400  set(2, 0) = 9  restore(0) = 20
            count(0) = 60  count(1) = 400  count(2) = 9  count(3) = 20  count(4) = 1  count(5) = 1300  count(7) = 800
            crew(0, 0) = 59  crew(1, 0) = 58  crew(0, 1) = 1  crew(1, 1) = 0  crew(0, 2) = 276  crew(0, 5) = 59
            crew(1, 2) = 293  crew(1, 3) = 1  crew(1, 5) = 107  step(0, 5) = 59  step(19, 2) = 65  count(15) = 0
            count(16) = 6  lay(1) = 53  crew(1, 2) = 173  crew(1, 5) = 162""");
        edges.run("saving is no change, and a slot is apart from what changes later", """
            build(20, 20) = 0  lay(0) = 0  save(0) = 1  count(16) = 2  takeUp(0) = 0  lay(1) = 8  restore(0) = 1
            crew(0, 1) = 1  crew(0, 5) = 0  crew(1, 3) = 0  lay(1) = NOT_POSSIBLE  undo() = 4  crew(0, 1) = 0
            crew(1, 1) = 1""");
    }

    private void restore() {
        edges.run("BAD_VALUE if there is no such slot; NOT_POSSIBLE if nothing was saved in it", """
            restore(-1) = BAD_VALUE  restore(2) = BAD_VALUE  restore(MIN) = BAD_VALUE  restore(MAX) = BAD_VALUE
            restore(0) = NOT_POSSIBLE  restore(1) = NOT_POSSIBLE  save(1) = 0  restore(0) = NOT_POSSIBLE
            restore(1) = 0  restore(2) = BAD_VALUE  save(0) = 0  restore(0) = 0""");
        edges.run("how many steps there are then: 0 and 20", """
            save(0) = 0  put("20*10/15") = 8  read() = 20  save(1) = 20  restore(0) = 0  count(3) = 0
            step(0, 0) = NO_SUCH  restore(1) = 20  count(3) = 20  step(19, 0) = 10  build(10, 15) = TOO_MANY
            restore(0) = 0  build(25, 40) = 0  count(5) = 65""");
    }

    private void restored() {
        edges.run("Restores what was saved last in a slot, which keeps it: as often as you like", """
            build(20, 20) = 0  begin(0, 5) = 0  save(1) = 1  begin(0, 6) = 5  restore(1) = 1  crew(0, 0) = 5
            begin(0, 7) = 5  lay(0) = 7  restore(1) = 1  crew(0, 0) = 5  crew(0, 1) = 0  build(20, 20) = 1
            restore(1) = 1  crew(0, 0) = 5  count(3) = 1""");
        edges.run("restore is a change, also if nothing is different then, and the oldest state is dropped", """
            save(0) = 0  restore(0) = 0  count(16) = 1  5 x restore(0) = 0  count(16) = 6  restore(0) = 0  count(16) = 6
            begin(0, 1) = 0  restore(0) = 0  crew(0, 0) = 0  undo() = 5  crew(0, 0) = 1  undo() = 4  crew(0, 0) = 0""");
        edges.run("restore leaves the pad and the other slot as they are", """
            put("10/1") = 4  save(0) = 0  build(10, 15) = 0  save(1) = 1  put("5") = 5  restore(0) = 0  count(15) = 5
            fault() = NONE  restore(1) = 1  count(15) = 5  wipe() = 5  restore(0) = 0  count(15) = 0
            restore(1) = 1""");
        edges.run("a history is not saved: undo goes back through restore", """
            build(10, 15) = 0  save(0) = 1  build(10, 16) = 1  build(10, 17) = 2  restore(0) = 1  count(16) = 4
            undo() = 3  count(3) = 3  undo() = 2  count(3) = 2  undo() = 1  count(3) = 1  undo() = 0  count(3) = 0""");
        edges.run("a piece goes on where it stood when it was saved", """
            put("2*10/15") = 7  read() = 2  lay(0) = 0  save(0) = 2  lay(0) = 1  crew(0, 2) = 70  restore(0) = 2
            crew(0, 2) = 95  lay(0) = 1  crew(0, 2) = 70  crew(0, 5) = 0  takeUp(0) = 1  restore(0) = 2
            crew(0, 2) = 95  crew(0, 5) = 0""");
    }
}
