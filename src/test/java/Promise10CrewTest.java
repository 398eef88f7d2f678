/** Promise 10: crew. */
final class Promise10CrewTest {
    public static void main(String[] args) {
        Due due = new Due("crew");
        MeetingCarpets x = new MeetingCarpets();
        Texts.put(x, "4*20/40");
        x.read();
        x.begin(0, 3);
        x.begin(1, 5);
        crewsAre(due, x, new int[] {3, 0, 0, 0, 0, 0, 0}, new int[] {5, 0, 0, 0, 0, 0, 3});
        x.lay(0);
        crewsAre(due, x, new int[] {3, 1, 57, 1, 0, 3, 1}, new int[] {5, 0, 0, 0, 0, 0, 3});
        x.lay(1);
        crewsAre(due, x, new int[] {3, 1, 57, 1, 0, 3, 1}, new int[] {5, 1, 41, 1, 0, 19, 2});
        x.lay(0);
        crewsAre(due, x, new int[] {3, 2, 45, 2, 1, 75, 2}, new int[] {5, 1, 41, 1, 0, 19, 2});
        x.lay(1);
        crewsAre(due, x, new int[] {3, 2, 45, 2, 1, 75, -6}, new int[] {5, 2, 53, 2, 1, 67, -6});
        x.takeUp(1);
        crewsAre(due, x, new int[] {3, 2, 45, 2, 1, 75, 2}, new int[] {5, 1, 53, 2, 1, 127, 2});
        String before = Look.at(x);
        due.is("crew(0, 6)", x.crew(0, 6), 2);
        due.is("crew(-1, 0)", x.crew(-1, 0), -1);
        due.is("crew(2, 0)", x.crew(2, 0), -1);
        due.is("crew(2, 7)", x.crew(2, 7), -1);
        due.is("crew(0, -1)", x.crew(0, -1), -2);
        due.is("crew(1, 7)", x.crew(1, 7), -2);
        due.is("crew(1, MAX)", x.crew(1, Integer.MAX_VALUE), -2);
        due.same("look", Look.at(x), before);
        due.end();
    }

    private static void crewsAre(Due due, MeetingCarpets x, int[] lower, int[] upper) {
        for (int what = 0; what < lower.length; what++) {
            due.is("crew(0, " + what + ")", x.crew(0, what), lower[what]);
            due.is("crew(1, " + what + ")", x.crew(1, what), upper[what]);
        }
    }
}
