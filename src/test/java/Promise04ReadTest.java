/** Promise 4: read. */
final class Promise04ReadTest {
    public static void main(String[] args) {
        Due due = new Due("read");
        flights(due);
        errors(due);
        undone(due);
        due.end();
    }

    private static void flights(Due due) {
        MeetingCarpets x = new MeetingCarpets();
        x.build(25, 15);
        Texts.put(x, "10/15;3*20/40;19/29;2*12/33");
        due.is("read()", x.read(), 8);
        int[] risers = {25, 10, 20, 20, 20, 19, 12, 12};
        int[] treads = {15, 15, 40, 40, 40, 29, 33, 33};
        for (int step = 0; step < risers.length; step++) {
            due.is("riser of " + step, x.step(step, 0), risers[step]);
            due.is("tread of " + step, x.step(step, 1), treads[step]);
        }
        due.is("count(3)", x.count(3), 8);
        due.is("count(5)", x.count(5), 383);
        due.is("count(15)", x.count(15), 0);
        due.is("count(16)", x.count(16), 2);
        due.is("read() of the empty pad", x.read(), -3);
        Texts.put(x, "12*25/40");
        due.is("read() up to 20", x.read(), 20);
        due.is("the highest tread", x.step(19, 1), 40);
    }

    private static void errors(Due due) {
        MeetingCarpets x = new MeetingCarpets();
        due.is("read() of nothing", x.read(), -3);
        Texts.put(x, "19*10/15;");
        String before = Look.at(x);
        due.is("read() of a text that ends too early", x.read(), -3);
        due.same("look", Look.at(x), before);
        Texts.put(x, "2*10/15");
        before = Look.at(x);
        due.is("read() of 21", x.read(), -4);
        due.same("look", Look.at(x), before);
        x.wipe();
        x.build(10, 15);
        Texts.put(x, "20*10/15");
        due.is("read() of 20 above 1", x.read(), -4);
        x.lay(0);
        before = Look.at(x);
        due.is("read() when one is laid", x.read(), -5);
        due.same("look", Look.at(x), before);
        Texts.put(x, "x");
        due.is("read() of a fault when one is laid", x.read(), -3);
        x.takeUp(0);
        x.wipe();
        Texts.put(x, "19*10/15");
        due.is("read() when it is taken up", x.read(), 20);
    }

    /** The pad is no part of what undo brings back. */
    private static void undone(Due due) {
        MeetingCarpets x = new MeetingCarpets();
        Texts.put(x, "2*10/15");
        x.read();
        due.is("undo()", x.undo(), 0);
        due.is("count(3)", x.count(3), 0);
        due.is("count(15)", x.count(15), 0);
    }
}
