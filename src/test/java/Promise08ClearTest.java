/** Promise 8: clear. */
final class Promise08ClearTest {
    public static void main(String[] args) {
        Due due = new Due("clear");
        MeetingCarpets x = new MeetingCarpets();
        due.is("clear() of nothing", x.clear(), 0);
        due.is("count(16)", x.count(16), 1);
        Texts.put(x, "4*20/40");
        x.read();
        x.set(2, 4);
        x.begin(0, 3);
        x.begin(1, 5);
        Texts.put(x, "10/15");
        x.save(1);
        String before = Look.whatStands(x);
        x.lay(0);
        x.lay(1);
        x.lay(1);
        x.lay(0);
        x.takeUp(1);
        due.is("seams ahead of clear()", x.count(10), 2);
        due.is("clear()", x.clear(), 3);
        due.same("look", Look.whatStands(x), before);
        due.is("crew(0, 0)", x.crew(0, 0), 3);
        due.is("crew(1, 0)", x.crew(1, 0), 5);
        due.is("crew(0, 2)", x.crew(0, 2), 0);
        due.is("crew(1, 5)", x.crew(1, 5), 0);
        due.is("count(7)", x.count(7), 0);
        due.is("count(15)", x.count(15), 5);
        due.is("count(16)", x.count(16), 6);
        due.is("undo()", x.undo(), 5);
        due.is("count(4)", x.count(4), 3);
        due.is("restore(1)", x.restore(1), 4);
        x.lay(0);
        due.is("takeUp(0)", x.takeUp(0), 0);
        due.is("clear() when a piece is taken, but none laid", x.clear(), 0);
        due.is("count(7)", x.count(7), 0);
        due.is("lay(0)", x.lay(0), 3);
        due.is("a first piece has no seam", x.count(10), 0);
        due.end();
    }
}
