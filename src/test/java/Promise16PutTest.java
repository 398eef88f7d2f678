/** Promise 16: put. */
final class Promise16PutTest {
    public static void main(String[] args) {
        Due due = new Due("put");
        lengths(due);
        codes(due);
        zerosBetween(due);
        full(due);
        due.end();
    }

    private static void lengths(Due due) {
        String[] texts = {"1", "10", "10/", "10/1", "10/15", "2*10/1", "2*10/15", "20*10/15"};
        for (String text : texts) {
            MeetingCarpets x = new MeetingCarpets();
            due.is("put(" + text + ")", x.put(Texts.number(text)), text.length());
            due.is("count(15)", x.count(15), text.length());
            due.is("count(16)", x.count(16), 0);
        }
        MeetingCarpets x = new MeetingCarpets();
        due.is("put(2*)", x.put(Texts.number("2*")), 2);
        due.is("put(10/15;)", x.put(Texts.number("10/15;")), 8);
        due.is("put(25/40)", x.put(Texts.number("25/40")), 13);
        due.is("fault()", x.fault(), -6);
        due.is("read()", x.read(), 3);
        due.is("step(1, 1)", x.step(1, 1), 15);
        due.is("step(2, 1)", x.step(2, 1), 40);
    }

    private static void codes(Due due) {
        MeetingCarpets x = new MeetingCarpets();
        String before = Look.at(x);
        due.is("put(0)", x.put(0L), -2);
        due.is("put(32)", x.put(32L), -2);
        due.is("put(127)", x.put(127L), -2);
        due.is("put(1)", x.put(1L), -2);
        due.is("put(128)", x.put(128L), -2);
        due.is("put(255)", x.put(255L), -2);
        due.is("put(-1)", x.put(-1L), -2);
        due.is("put(MIN)", x.put(Long.MIN_VALUE), -2);
        due.is("put(MAX)", x.put(Long.MAX_VALUE), -2);
        for (int place = 0; place < 8; place++) {
            long eight = Texts.number("abcdefgh") & ~(255L << (8 * place));
            due.is("put with a code of 32", x.put(eight | 32L << (8 * place)), -2);
            due.is("put with a code of 127", x.put(eight | 127L << (8 * place)), -2);
            due.is("put with a code of 200", x.put(eight | 200L << (8 * place)), -2);
        }
        due.same("look", Look.at(x), before);
        due.is("put(33)", x.put(33L), 1);
        due.is("put(126)", x.put(126L), 2);
        due.is("put(~~~~~~~~)", x.put(Texts.number("~~~~~~~~")), 10);
        due.is("put(!!!!!!!!)", x.put(Texts.number("!!!!!!!!")), 18);
    }

    private static void zerosBetween(Due due) {
        MeetingCarpets x = new MeetingCarpets();
        for (int place = 0; place < 7; place++) {
            long eight = Texts.number("abcdefgh") & ~(255L << (8 * place));
            due.is("put with 8 bits of 0 at " + place, x.put(eight), -2);
            long justOne = Texts.number("abcdefgh") & (1L << (8 * place)) - 1 | 1L << 63;
            due.is("put with a bit above zeros at " + place, x.put(justOne), -2);
        }
        due.is("put of one code above 8 bits of 0", x.put(65L << 8), -2);
        due.is("put of one bit above 8 bits of 0", x.put(1L << 16 | 65L), -2);
        due.is("count(15)", x.count(15), 0);
        due.is("put of 7", x.put(Texts.number("abcdefg")), 7);
    }

    private static void full(Due due) {
        MeetingCarpets x = new MeetingCarpets();
        for (int i = 1; i <= 7; i++) {
            due.is("put of 8", x.put(Texts.number("2*10/15;")), 8 * i);
        }
        String before = Look.at(x);
        due.is("put of 5 when 4 fit", x.put(Texts.number("10/15")), -4);
        due.is("put of 8 when 4 fit", x.put(Texts.number("10/15;10")), -4);
        due.is("put of a bad code when 4 fit", x.put(Texts.number("10/1") << 8 | 32L), -2);
        due.same("look", Look.at(x), before);
        due.is("put of 4 when 4 fit", x.put(Texts.number("10/1")), 60);
        due.is("put of 1 when none fits", x.put(Texts.number("5")), -4);
        due.is("put(0) when none fits", x.put(0L), -2);
        due.is("fault()", x.fault(), 60);
        x.wipe();
        due.is("put of 8 when all is wiped", x.put(Texts.number("20*10/15")), 8);
        due.is("read()", x.read(), 20);
    }
}
