/** The section "Meeting". */
final class EdgesOfMeetingTest {
    private final Edges edges = new Edges("edges of meeting");

    public static void main(String[] args) {
        EdgesOfMeetingTest test = new EdgesOfMeetingTest();
        test.whenTheyMeet();
        test.whereTheyMeet();
        test.lesserWay();
        test.inPhase();
        test.edges.end();
    }

    private void whenTheyMeet() {
        edges.run("they do not meet without steps", """
            count(12) = NONE  count(13) = NONE  count(14) = NONE""");
        edges.runOfEachCrew("one step: one crew lays it, and they do not meet", """
            build(20, 20) = 0  count(12) = NONE  count(13) = NONE  count(14) = NONE
            lay(#)  count(4) = 1  count(12) = NONE  count(13) = NONE  count(14) = NONE""");
        edges.runOfEachCrew("all steps are laid, but by one crew", """
            build(20, 20) = 0  build(20, 20) = 1  lay(#)  count(12) = NONE  count(13) = NONE  count(14) = NONE
            lay(#)  count(4) = 2  count(12) = NONE  count(13) = NONE  count(14) = NONE""");
        edges.runOfEachCrew("both laid some, but one step is not laid", """
            put("3*20/20") = 7  read() = 3  lay(0)  lay(1)  count(12) = NONE  count(13) = NONE  count(14) = NONE
            lay(#)  count(12)  count(13) = 0  count(14) = 1
            takeUp(#)  count(12) = NONE  count(13) = NONE  count(14) = NONE""");
        edges.run("two steps, one of each crew", """
            build(20, 20) = 0  build(20, 20) = 1  lay(1) = 8  lay(0) = 0  count(12) = 1  count(13) = 8  count(14) = 0
            clear() = 2  count(12) = NONE  undo()  count(12) = 1  count(13) = 8""");
    }

    private void whereTheyMeet() {
        edges.run("the crew 0 lays the lowest of 20 steps only", """
            put("20*10/15") = 8  read() = 20  lay(0) = 0  19 x lay(1)  count(12) = 1  count(13) = 4  count(14) = 0
            step(0, 6) = 1  step(1, 5) = 5""");
        edges.run("the crew 1 lays the highest of 20 steps only", """
            put("20*10/15") = 8  read() = 20  19 x lay(0)  lay(1) = 23  count(12) = 19  count(13) = 4  count(14) = 0
            step(18, 6) = 19  step(19, 5) = 23""");
        edges.run("both lay 10 of 20 steps", """
            put("20*10/15") = 8  read() = 20  10 x lay(1)  10 x lay(0)  count(12) = 10  count(13) = 4
            step(9, 6) = 10  step(10, 5) = 14""");
    }

    /** Two steps of 40: the places that meet differ by 8 and the beginning from below, less that from above. */
    private void lesserWay() {
        int[][] even = {{0, 8}, {3, 11}, {4, 12}, {5, 11}, {15, 1}, {16, 0}, {17, 1}, {23, 7}};
        for (int[] pair : even) {
            meet("a pattern of 24, beginning with " + pair[0], 24, pair[0], 0, pair[1]);
        }
        meet("a pattern of 24, the other one's beginning: 12 is half of it", 24, 0, 20, 12);
        meet("a pattern of 24, the other one's beginning: 11", 24, 0, 19, 11);
        meet("a pattern of 24, the other one's beginning: 11 again", 24, 0, 21, 11);
        meet("a pattern of 24, both at the last place", 24, 23, 23, 8);
        int[][] odd = {{0, 5}, {6, 11}, {7, 12}, {8, 12}, {9, 11}, {19, 1}, {20, 0}, {21, 1}, {24, 4}};
        for (int[] pair : odd) {
            meet("a pattern of 25, beginning with " + pair[0], 25, pair[0], 0, pair[1]);
        }
        meet("a pattern of 2, no difference", 2, 0, 0, 0);
        meet("a pattern of 2, the largest difference", 2, 1, 0, 1);
        meet("a pattern of 2, the largest difference from above", 2, 0, 1, 1);
        meet("a pattern of 3: 2 are 1 the other way", 3, 0, 0, 1);
        meet("a pattern of 3: none", 3, 1, 0, 0);
        meet("a pattern of 3: 1", 3, 2, 0, 1);
        meet("a pattern of 60: 30 is half of it", 60, 10, 0, 30);
        meet("a pattern of 60: 29", 60, 11, 0, 29);
        meet("a pattern of 60: 29 again", 60, 9, 0, 29);
        meet("a pattern of 60: 0", 60, 40, 0, 0);
    }

    private void meet(String sentence, int repeat, int below, int above, int difference) {
        String largest = difference <= 9 ? "set(2, " + difference + ")  count(14) = 1\n" : "set(2, 9)  count(14) = 0\n";
        String less = difference > 0 && difference <= 9 ? "set(2, " + (difference - 1) + ")  count(14) = 0\n" : "";
        edges.run(sentence, "set(0, " + repeat + ") = 24  set(1, 400) = 120  build(20, 20) = 0  build(20, 20) = 1\n"
            + "begin(0, " + below + ") = 0  begin(1, " + above + ") = 0\n"
            + "ifMet(1, 0) = " + difference + "  ifMet(1, 1) = " + difference + "\n"
            + "lay(0) = " + below + "  lay(1)  count(13) = " + difference + "\n" + largest + less);
    }

    private void inPhase() {
        edges.run("they meet in phase, if that is at most SLACK: 8", """
            build(20, 20) = 0  build(20, 20) = 1  lay(0) = 0  lay(1) = 8  count(13) = 8  count(14) = 0
            set(2, 7) = 0  count(14) = 0  set(2, 8) = 7  count(14) = 1  set(2, 9) = 8  count(14) = 1
            undo()  undo()  count(14) = 0""");
        edges.run("a SLACK of 0 and no difference", """
            build(10, 38) = 0  build(10, 38) = 1  lay(0) = 0  lay(1) = 0  count(13) = 0  count(14) = 1""");
    }
}
