/** The section "Conventions", and for how many calls an object is used. */
final class EdgesOfConventionsTest {
    private final Edges edges = new Edges("edges of conventions");

    public static void main(String[] args) {
        EdgesOfConventionsTest test = new EdgesOfConventionsTest();
        test.noneOnlyIfNoErrorApplies();
        test.numberedFromZero();
        test.edges.end();
        allCallsOfAnObject();
    }

    private void noneOnlyIfNoErrorApplies() {
        edges.run("NONE is not an error; it is returned only if no error applies: without steps", """
            crew(0, 6) = NONE  crew(1, 6) = NONE  crew(2, 6) = NO_SUCH  crew(-1, 6) = NO_SUCH
            count(12) = NONE  count(13) = NONE  count(14) = NONE
            leastTrim() = NONE  ifLaid(0) = NO_SUCH  step(0, 4) = NO_SUCH""");
        edges.run("NONE is not an error; it is returned only if no error applies: with a step", """
            set(1, 20) = 120  build(10, 15) = 0
            step(0, 4) = NONE  step(0, 5) = NONE  step(0, 6) = NONE  step(0, 7) = NONE
            step(1, 4) = NO_SUCH  step(1, 5) = NO_SUCH  step(1, 6) = NO_SUCH  step(1, 7) = NO_SUCH
            step(-1, 4) = NO_SUCH  step(0, 8) = BAD_VALUE
            ifLaid(0) = NONE  ifLaid(1) = NONE  ifLaid(2) = NO_SUCH  ifLaid(-1) = NO_SUCH
            leastTrim() = NONE  crew(0, 6) = 0  crew(0, 7) = BAD_VALUE""");
        edges.run("NONE of a pad without a fault", """
            fault() = 0  put("10/15") = 5  fault() = NONE""");
    }

    private void numberedFromZero() {
        edges.run("Everything is numbered from 0: settings", """
            set(-1, 5) = BAD_VALUE  set(0, 5) = 24  set(1, 25) = 120  set(2, 5) = 0  set(3, 5) = BAD_VALUE""");
        edges.run("Everything is numbered from 0: steps and crews", """
            build(10, 15) = 0  build(10, 16) = 1  build(10, 17) = 2
            step(-1, 1) = NO_SUCH  step(0, 1) = 15  step(2, 1) = 17  step(3, 1) = NO_SUCH
            crew(-1, 1) = NO_SUCH  crew(0, 1) = 0  crew(1, 1) = 0  crew(2, 1) = NO_SUCH""");
        edges.run("Everything is numbered from 0: slots", """
            save(-1) = BAD_VALUE  save(0) = 0  save(1) = 0  save(2) = BAD_VALUE""");
    }

    /** An object is used for at most 512 calls: the dearest one, as often, and the last one answers as due. */
    private static void allCallsOfAnObject() {
        Due due = new Due("512 calls");
        MeetingCarpets x = new MeetingCarpets();
        Texts.put(x, "20*25/40");
        due.is("read()", x.read(), 20);
        for (int call = 3; call < 512; call++) {
            due.is("leastTrim(), call " + call, x.leastTrim(), 1);
        }
        due.is("ifLaid(10), call 512", x.ifLaid(10), 1008);
        MeetingCarpets changed = new MeetingCarpets();
        for (int call = 1; call < 512; call++) {
            due.is("begin(1, 3), call " + call, changed.begin(1, 3), call == 1 ? 0 : 3);
        }
        due.is("undo(), call 512", changed.undo(), 5);
        due.end();
    }
}
