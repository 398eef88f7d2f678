/** The section "Settings". */
final class EdgesOfSettingsTest {
    private final Edges edges = new Edges("edges of settings");

    public static void main(String[] args) {
        EdgesOfSettingsTest test = new EdgesOfSettingsTest();
        test.ranges();
        test.repeatInUse();
        test.rollInUse();
        test.slackInUse();
        test.edges.end();
    }

    private void ranges() {
        edges.run("first values", "count(0) = 24  count(1) = 120  count(2) = 0");
        eachValue("REPEAT (2 to 60; 24)", 0, 2, 60, 24);
        eachValue("ROLL (20 to 400; 120), its lower half", 1, 20, 210, 120);
        eachValue("ROLL (20 to 400; 120), its upper half", 1, 211, 400, 120);
        eachValue("SLACK (0 to 9; 0)", 2, 0, 9, 0);
        edges.run("REPEAT (2 to 60; 24): beside the range", """
            set(0, 1) = BAD_VALUE  set(0, 0) = BAD_VALUE  set(0, -1) = BAD_VALUE  set(0, MIN) = BAD_VALUE
            set(0, 61) = BAD_VALUE  set(0, MAX) = BAD_VALUE  count(0) = 24
            set(0, 2) = 24  set(0, 1) = BAD_VALUE  count(0) = 2  set(0, 60) = 2  set(0, 61) = BAD_VALUE
            count(0) = 60""");
        edges.run("ROLL (20 to 400; 120): beside the range", """
            set(1, 19) = BAD_VALUE  set(1, 0) = BAD_VALUE  set(1, -20) = BAD_VALUE  set(1, MIN) = BAD_VALUE
            set(1, 401) = BAD_VALUE  set(1, MAX) = BAD_VALUE  count(1) = 120
            set(1, 20) = 120  set(1, 19) = BAD_VALUE  count(1) = 20
            set(1, 400) = 20  set(1, 401) = BAD_VALUE  count(1) = 400""");
        edges.run("SLACK (0 to 9; 0): beside the range", """
            set(2, -1) = BAD_VALUE  set(2, MIN) = BAD_VALUE  set(2, 10) = BAD_VALUE  set(2, MAX) = BAD_VALUE
            count(2) = 0  set(2, 9) = 0  set(2, 10) = BAD_VALUE  count(2) = 9
            set(2, 0) = 9  set(2, -1) = BAD_VALUE  count(2) = 0""");
        edges.run("each setting has a range of its own", """
            set(0, 9) = 24  set(2, 9) = 0  set(0, 10) = 9  set(2, 10) = BAD_VALUE
            set(0, 60) = 10  set(1, 60) = 120  set(1, 61) = 60  set(0, 61) = BAD_VALUE
            set(0, 20) = 60  set(1, 20) = 61  set(0, 19) = 20  set(1, 19) = BAD_VALUE
            set(2, 1) = 9  set(0, 1) = BAD_VALUE  count(0) = 19  count(1) = 20  count(2) = 1""");
    }

    private void eachValue(String sentence, int setting, int least, int most, int first) {
        StringBuilder calls = new StringBuilder();
        int previous = first;
        for (int value = least; value <= most; value++) {
            calls.append("set(" + setting + ", " + value + ") = " + previous + "\n");
            previous = value;
        }
        calls.append("count(").append(setting).append(") = ").append(most);
        edges.run(sentence, calls.toString());
    }

    private void repeatInUse() {
        edges.run("REPEAT of 2: there are the places 0 and 1", """
            set(0, 2) = 24  begin(0, 2) = BAD_VALUE  begin(1, 2) = BAD_VALUE  begin(0, 1) = 0
            build(10, 15) = 0  build(10, 15) = 1  build(10, 16) = 2
            lay(0) = 1  step(0, 6) = 0  step(0, 7) = 12
            lay(0) = 0  step(1, 6) = 1  step(1, 7) = 13
            lay(1) = 0  step(2, 6) = 0  step(2, 7) = 13
            crew(0, 2) = 69  crew(0, 5) = 1  crew(1, 2) = 94  crew(1, 5) = 0
            count(12) = 2  count(13) = 1  count(14) = 0  ifMet(1, 0) = 1  ifMet(1, 1) = 1
            bestBeginning(0) = 0  bestBeginning(1) = 1""");
        edges.run("REPEAT of 60: there are the places 0 to 59", """
            set(0, 60) = 24  begin(0, 60) = BAD_VALUE  begin(0, 59) = 0  begin(1, 60) = BAD_VALUE  begin(1, 59) = 0
            build(25, 40) = 0  build(25, 40) = 1
            set(1, 123) = 120  lay(0) = NOT_POSSIBLE  set(1, 124) = 123
            lay(0) = 59  step(0, 6) = 4  step(0, 7) = 2  crew(0, 2) = 0  crew(0, 5) = 59
            lay(1) = 54  step(1, 6) = 59  step(1, 7) = 1  crew(1, 2) = 54  crew(1, 5) = 5
            count(13) = 10  ifMet(1, 0) = 10  bestBeginning(0) = 49  bestBeginning(1) = 9""");
    }

    private void rollInUse() {
        edges.run("ROLL of 20 to 24: too short for each step", """
            build(10, 15) = 0  set(1, 20) = 120  lay(0) = NOT_POSSIBLE  lay(1) = NOT_POSSIBLE
            ifLaid(0) = NONE  ifLaid(1) = NONE  leastTrim() = NONE
            set(1, 24) = 20  lay(0) = NOT_POSSIBLE  lay(1) = NOT_POSSIBLE  leastTrim() = NONE
            set(1, 25) = 24  lay(1) = NOT_POSSIBLE  leastTrim() = 1  lay(0) = 0  crew(0, 2) = 0  crew(0, 5) = 0""");
        edges.run("ROLL of 25 from above: the place at its end is 1", """
            build(10, 15) = 0  set(1, 25) = 120  begin(1, 1) = 0  lay(1) = 0  crew(1, 2) = 0  crew(1, 5) = 0""");
        edges.run("ROLL of 400: six of the longest steps, and 10 are left", """
            set(1, 400) = 120  put("20*25/40") = 8  read() = 20
            lay(0) = 0  lay(0) = 17  lay(0) = 10  lay(0) = 3  lay(0) = 20  lay(0) = 13
            crew(0, 2) = 10  crew(0, 3) = 1  crew(0, 5) = 0
            lay(0) = 6  crew(0, 2) = 329  crew(0, 3) = 2  crew(0, 4) = 1  crew(0, 5) = 16  count(7) = 800""");
        edges.run("ROLL of 400 from above: the place at its end is 16", """
            set(1, 400) = 120  put("20*25/40") = 8  read() = 20  begin(1, 16) = 0
            lay(1) = 23  lay(1) = 6  lay(1) = 13  lay(1) = 20  lay(1) = 3  lay(1) = 10
            crew(1, 2) = 10  crew(1, 3) = 1  crew(1, 5) = 0
            lay(1) = 17  crew(1, 2) = 329  crew(1, 3) = 2  crew(1, 4) = 1  crew(1, 5) = 16""");
    }

    private void slackInUse() {
        edges.run("SLACK of 0 and of 9: by how much phases may differ", """
            build(20, 20) = 0  build(20, 20) = 1  begin(0, 1) = 0  lay(0) = 1  lay(1) = 8  count(13) = 9
            count(14) = 0  set(2, 8) = 0  count(14) = 0  set(2, 9) = 8  count(14) = 1""");
        edges.run("SLACK of 9: 10 are too much", """
            build(20, 20) = 0  build(20, 20) = 1  begin(0, 2) = 0  lay(0) = 2  lay(1) = 8  count(13) = 10
            set(2, 9) = 0  count(14) = 0""");
        edges.run("SLACK of 0: no difference at all, and 1 is too much", """
            build(20, 20) = 0  build(20, 20) = 1  begin(0, 16) = 0  lay(0) = 16  lay(1) = 8  count(13) = 0
            count(14) = 1  takeUp(0) = 0  begin(0, 17) = 16  lay(0) = 17  count(13) = 1  count(14) = 0
            set(2, 1) = 0  count(14) = 1  set(2, 0) = 1  count(14) = 0""");
    }
}
