/** Promise 17: wipe. */
final class Promise17WipeTest {
    public static void main(String[] args) {
        Due due = new Due("wipe");
        MeetingCarpets x = new MeetingCarpets();
        due.is("wipe() of nothing", x.wipe(), 0);
        x.build(20, 20);
        x.build(20, 20);
        x.lay(1);
        String before = Look.at(x);
        Texts.put(x, "10/15;x");
        due.is("wipe()", x.wipe(), 7);
        due.same("look", Look.at(x), before);
        due.is("wipe() again", x.wipe(), 0);
        due.is("fault()", x.fault(), 0);
        due.is("count(16)", x.count(16), 3);
        Texts.put(x, "25/15");
        due.is("fault() of what is put later", x.fault(), -6);
        for (int i = 0; i < 7; i++) {
            Texts.put(x, "11111111");
        }
        due.is("wipe() of 60 or nearly", x.wipe(), 5 + 6 * 8);
        due.end();
    }
}
