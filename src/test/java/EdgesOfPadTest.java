/** Promises 16 to 18: put, wipe, fault. Which texts have which fault stands in EdgesOfTextsTest. */
final class EdgesOfPadTest {
    private final Edges edges = new Edges("edges of the pad");

    public static void main(String[] args) {
        EdgesOfPadTest test = new EdgesOfPadTest();
        test.characters();
        test.codesAtEachPlace();
        test.bitsAboveZeros();
        test.order();
        test.upToSixty();
        test.putIsNoChange();
        test.wipe();
        test.fault();
        test.edges.end();
    }

    private void characters() {
        edges.run("1 to 8 characters: none is BAD_VALUE", """
            put(0) = BAD_VALUE  put("1") = 1  put("0/") = 3  put("15;") = 6  put("2*10") = 10  put("/15;3") = 15
            put("*10/15") = 21  put(";10/15;") = 28  put("20*10/15") = 36  count(15) = 36  put(0) = BAD_VALUE""");
        edges.run("a code is 33 to 126", """
            put(33) = 1  put(126) = 2  put(32) = BAD_VALUE  put(127) = BAD_VALUE  put(1) = BAD_VALUE
            put(31) = BAD_VALUE  put(128) = BAD_VALUE  put(161) = BAD_VALUE  put(177) = BAD_VALUE  put(255) = BAD_VALUE
            put(-1) = BAD_VALUE  put(MIN) = BAD_VALUE  put(MAX) = BAD_VALUE  count(15) = 2""");
        StringBuilder all = new StringBuilder();
        for (int code = 33; code <= 126; code++) {
            all.append(code == 93 ? "wipe() = 60\n" : "").append("put(").append(code).append(")\n");
        }
        edges.run("each code from 33 to 126", all + "count(15) = 34");
    }

    /** A number of some characters, one of which has another code. */
    private static String withCode(int length, int place, long code) {
        long number = Texts.number("aaaaaaaa".substring(8 - length)) & ~(255L << 8 * place);
        return "put(0x" + Long.toHexString(number | code << 8 * place) + ")";
    }

    private void codesAtEachPlace() {
        for (int length = 1; length <= 8; length++) {
            StringBuilder calls = new StringBuilder();
            for (int place = 0; place < length; place++) {
                for (long code : new long[] {32, 127, 128, 161, 255, 1}) {
                    calls.append(withCode(length, place, code)).append(" = BAD_VALUE\n");
                }
            }
            calls.append(withCode(length, 0, 33)).append(" = ").append(length).append('\n');
            calls.append(withCode(length, length - 1, 126)).append(" = ").append(2 * length);
            edges.run("a code is 33 to 126, at each place of " + length, calls.toString());
        }
    }

    private void bitsAboveZeros() {
        StringBuilder calls = new StringBuilder();
        for (int place = 0; place < 7; place++) {
            calls.append(withCode(8, place, 0)).append(" = BAD_VALUE\n");
        }
        edges.run("a bit above 8 bits that are 0 is not 0: all of them, and 7 characters without", calls
            + withCode(8, 7, 0) + " = 7");
        calls.setLength(0);
        for (int zeros = 1; zeros < 7; zeros++) {
            long below = Texts.number("aaaaaaaa") & (1L << 8 * zeros) - 1;
            for (int bit = 8 * zeros + 8; bit < 64; bit += bit % 8 == 0 ? 7 : 1) {
                calls.append("put(0x" + Long.toHexString(below | 1L << bit) + ") = BAD_VALUE\n");
            }
        }
        edges.run("a bit above 8 bits that are 0 is not 0: the lowest and the highest of 8", calls
            + "put(0x61000000000000) = BAD_VALUE  put(0x6100) = BAD_VALUE  put(0x610061) = BAD_VALUE\n"
            + "put(0x100000000) = BAD_VALUE  put(0x8000000000000000) = BAD_VALUE  put(0x8000000000000061) = BAD_VALUE\n"
            + "count(15) = 0");
    }

    private void order() {
        edges.run("its lowest 8 bits are the last character, the next 8 bits the one before", """
            put(0x31302f3135) = 5  fault() = NONE  read() = 1  step(0, 0) = 10  step(0, 1) = 15
            put(0x32) = 1  put(0x2a3131) = 4  put(0x2f3339) = 7  fault() = NONE  read() = 3  step(2, 0) = 11
            step(2, 1) = 39  put("12345678") = 8  fault() = 2  wipe() = 8  put("22*10/15") = 8  fault() = 2""");
    }

    private void upToSixty() {
        edges.run("TOO_MANY if the pad would be longer than 60: 59, 60 and 61 characters", """
            7 x put("20*10/15")  count(15) = 56  put("12345") = TOO_MANY  put("12345678") = TOO_MANY
            put("123") = 59  put("12") = TOO_MANY  put("4") = 60  put("5") = TOO_MANY  put("12345678") = TOO_MANY
            count(15) = 60""");
        for (int length = 1; length <= 8; length++) {
            lastCharacters(length);
        }
        edges.run("BAD_VALUE ahead of TOO_MANY", """
            7 x put("20*10/15")  put("1234") = 60  put(0) = BAD_VALUE  put(32) = BAD_VALUE  put(127) = BAD_VALUE
            put(0x6100) = BAD_VALUE  put(-1) = BAD_VALUE  put(33) = TOO_MANY  put(126) = TOO_MANY""");
    }

    private void lastCharacters(int length) {
        String text = "put(\"" + "aaaaaaaa".substring(8 - length) + "\")";
        int ahead = 60 - length;
        String fill = ahead / 8 + " x put(\"bbbbbbbb\")\n";
        if (ahead % 8 > 0) {
            fill += ahead % 8 + " x put(\"b\")\n";
        }
        edges.run("the last " + length + " characters just fit", fill + "count(15) = " + ahead + "\n"
            + text + " = 60  put(\"a\") = TOO_MANY  count(15) = 60");
        edges.run("the last " + length + " characters are one more than fits", fill
            + "put(\"b\") = " + (ahead + 1) + "\n" + text + " = TOO_MANY  count(15) = " + (ahead + 1));
    }

    private void putIsNoChange() {
        edges.run("put is no change: it is not undone, and steps that are laid are no matter", """
            build(20, 20) = 0  lay(0) = 0  put("10/15") = 5  count(16) = 2  undo() = 1  count(15) = 5  fault() = NONE
            put(";11/16") = 11  undo() = 0  read() = 2  step(1, 1) = 16""");
    }

    private void wipe() {
        edges.run("wipe returns the length that it had: 0, 1, 60, and 0 again", """
            wipe() = 0  put("x") = 1  wipe() = 1  wipe() = 0  7 x put("20*10/15")  put("1234") = 60
            wipe() = 60  wipe() = 0  count(15) = 0  fault() = 0""");
        edges.run("wipe is no change, and changes the pad alone", """
            build(20, 20) = 0  lay(1) = 8  put("10/15") = 5  save(0) = 1  wipe() = 5  count(16) = 2  count(4) = 1
            undo() = 1  count(15) = 0  restore(0) = 1  count(15) = 0""");
        edges.run("what was wiped does not come back", """
            put("20*10/15") = 8  wipe() = 8  put("2") = 1  fault() = 1  put("*1") = 3  fault() = 3  put("0/15") = 7
            read() = 2""");
    }

    private void fault() {
        edges.run("fault: NONE if there is none, the length if it ends too early, also if it is empty", """
            fault() = 0  put("1") = 1  fault() = 1  put("0") = 2  fault() = 2  put("/") = 3  fault() = 3
            put("1") = 4  fault() = 4  put("5") = 5  fault() = NONE  put(";") = 6  fault() = 6  put("2") = 7
            fault() = 7
            put("*") = 8  fault() = 8  put("2") = 9  fault() = 9  put("5") = 10  fault() = 10  put("/") = 11
            fault() = 11  put("4") = 12  fault() = 12  put("0") = 13  fault() = NONE  put("0") = 14  fault() = 13
            put(";") = 15  fault() = 13  wipe() = 15  fault() = 0""");
        edges.run("more steps than there is room for are no fault", """
            20 x build(10, 15)  put("20*10/15") = 8  fault() = NONE  read() = TOO_MANY  fault() = NONE
            lay(0) = 0  fault() = NONE  read() = NOT_POSSIBLE""");
    }
}
