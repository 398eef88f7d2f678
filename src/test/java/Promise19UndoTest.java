/** Promise 19: undo. */
final class Promise19UndoTest {
    public static void main(String[] args) {
        Due due = new Due("undo");
        eachChange(due);
        atMostSix(due);
        alsoIfNothingIsDifferent(due);
        whatIsNoChange(due);
        notThePadAndTheSlots(due);
        againAndAgain(due);
        due.end();
    }

    private static void eachChange(Due due) {
        for (int change = 0; change < 12; change++) {
            MeetingCarpets x = new MeetingCarpets();
            x.build(20, 40);
            x.build(25, 15);
            x.begin(0, 3);
            x.save(0);
            if (change >= 7) {
                x.lay(0);
                x.lay(1);
            }
            String before = Look.whatStands(x);
            int undoable = x.count(16);
            due.is("change " + change + " is no error", makeChange(x, change) >= 0 ? 1 : 0, 1);
            due.is("count(16)", x.count(16), undoable + 1);
            due.is("undo()", x.undo(), undoable);
            due.is("count(16)", x.count(16), undoable);
            due.same("look after " + change, Look.whatStands(x), before);
        }
    }

    private static int makeChange(MeetingCarpets x, int change) {
        switch (change) {
            case 0: return x.set(0, 30);
            case 1: return x.set(1, 30);
            case 2: return x.build(11, 22);
            case 3: Texts.put(x, "3*11/22"); return x.read();
            case 4: return x.begin(0, 7);
            case 5: return x.begin(1, 7);
            case 6: return x.lay(1);
            case 7: return x.takeUp(0);
            case 8: return x.takeUp(1);
            case 9: return x.clear();
            case 10: return x.restore(0);
            default: return x.set(2, 5);
        }
    }

    private static void atMostSix(Due due) {
        MeetingCarpets x = new MeetingCarpets();
        due.is("undo() of nothing", x.undo(), -5);
        for (int place = 1; place <= 9; place++) {
            x.begin(0, place);
            due.is("count(16)", x.count(16), Math.min(place, 6));
        }
        for (int undone = 1; undone <= 6; undone++) {
            due.is("undo()", x.undo(), 6 - undone);
            due.is("crew(0, 0)", x.crew(0, 0), 9 - undone);
        }
        String before = Look.at(x);
        due.is("undo() of what is dropped", x.undo(), -5);
        due.same("look", Look.at(x), before);
    }

    private static void alsoIfNothingIsDifferent(Due due) {
        MeetingCarpets x = new MeetingCarpets();
        x.set(2, 3);
        x.set(2, 3);
        x.begin(0, 0);
        x.clear();
        due.is("count(16)", x.count(16), 4);
        due.is("undo()", x.undo(), 3);
        due.is("undo()", x.undo(), 2);
        due.is("undo()", x.undo(), 1);
        due.is("count(2)", x.count(2), 3);
        due.is("undo()", x.undo(), 0);
        due.is("count(2)", x.count(2), 0);
    }

    private static void whatIsNoChange(Due due) {
        MeetingCarpets x = new MeetingCarpets();
        x.build(10, 15);
        Texts.put(x, "10/15");
        x.wipe();
        x.fault();
        x.save(0);
        x.ifMet(1, 0);
        x.bestBeginning(0);
        x.ifLaid(0);
        x.leastTrim();
        x.step(0, 0);
        x.crew(0, 0);
        x.count(16);
        x.set(0, 1);
        x.build(1, 1);
        x.read();
        x.begin(0, 60);
        x.lay(3);
        x.takeUp(0);
        x.restore(1);
        due.is("count(16)", x.count(16), 1);
    }

    private static void notThePadAndTheSlots(Due due) {
        MeetingCarpets x = new MeetingCarpets();
        x.build(10, 15);
        Texts.put(x, "25/40");
        x.read();
        Texts.put(x, "10/1");
        x.save(1);
        due.is("undo()", x.undo(), 1);
        due.is("count(15)", x.count(15), 4);
        due.is("count(3)", x.count(3), 1);
        due.is("undo()", x.undo(), 0);
        due.is("restore(1)", x.restore(1), 2);
        due.is("step(1, 0)", x.step(1, 0), 25);
    }

    /** Undone states are replaced by what is done then. */
    private static void againAndAgain(Due due) {
        MeetingCarpets x = new MeetingCarpets();
        for (int place = 1; place <= 20; place++) {
            x.begin(1, place);
            x.begin(1, 23);
            x.begin(1, 22);
            due.is("undo()", x.undo() >= 2 ? 1 : 0, 1);
            due.is("crew(1, 0)", x.crew(1, 0), 23);
            x.undo();
            due.is("crew(1, 0)", x.crew(1, 0), place);
        }
        for (int place = 19; place >= 16; place--) {
            due.is("undo()", x.undo(), place - 16);
            due.is("crew(1, 0)", x.crew(1, 0), place);
        }
        due.is("undo() of what is dropped", x.undo(), -5);
    }
}
