/** All promises: long mixed runs of calls, each answered by the program as by the PlainHouse. */
final class AgainstPlainHouseTest {
    private static final int RUNS = 600;
    // Nothing is promised about an object after its 512th call, and a text may need some more.
    private static final int CALLS = 500;
    private static final String SIGNS = "0123456789*/;";

    private final Due due;
    private final MeetingCarpets x = new MeetingCarpets();
    private final PlainHouse plain = new PlainHouse();
    private final int run;
    private long seed;
    private int calls = 0;

    private AgainstPlainHouseTest(Due due, int run) {
        this.due = due;
        this.run = run;
        this.seed = run * 1000003L;
    }

    public static void main(String[] args) {
        Due due = new Due("against the plain house");
        for (int run = 1; run <= RUNS && !due.wasWrong(); run++) {
            new AgainstPlainHouseTest(due, run).callAll();
        }
        due.end();
    }

    /** A number from 0 to bound less 1; the same ones each time. */
    private int draw(int bound) {
        seed = seed * 6364136223846793005L + 1442695040888963407L;
        return (int) ((seed >>> 33) % bound);
    }

    /** A number from least to most; now and then one beside them, or far away. */
    private int around(int least, int most) {
        switch (draw(24)) {
            case 0: return least - 1;
            case 1: return most + 1;
            case 2: return least;
            case 3: return most;
            case 4: return draw(12) > 0 ? least : draw(2) == 0 ? Integer.MIN_VALUE : Integer.MAX_VALUE;
            default: return least + draw(most - least + 1);
        }
    }

    private void callAll() {
        prepare();
        while (calls < CALLS) {
            int kind = draw(100);
            if (kind < 48) {
                change();
            } else if (kind < 86) {
                ask();
            } else if (kind < 92) {
                write();
            } else {
                goBack();
            }
        }
    }

    private void check(String call, int got, int want) {
        calls++;
        due.is("run " + run + ", call " + calls + ": " + call, got, want);
    }

    private void prepare() {
        if (run % 3 > 0) {
            set(0, around(2, 60));
            set(1, run % 3 == 1 ? around(20, 130) : around(100, 400));
        }
        // In each fifth run the house is full, and refuses some.
        int steps = run % 5 == 0 ? 26 : draw(8);
        for (int i = 0; i < steps; i++) {
            build();
        }
        begin(0);
        begin(1);
    }

    private void set(int setting, int value) {
        check("set(" + setting + ", " + value + ")", x.set(setting, value), plain.set(setting, value));
    }

    private void build() {
        int riser = around(10, 25);
        int tread = around(15, 40);
        check("build(" + riser + ", " + tread + ")", x.build(riser, tread), plain.build(riser, tread));
    }

    private void begin(int crew) {
        int place = around(0, plain.count(0) - 1);
        check("begin(" + crew + ", " + place + ")", x.begin(crew, place), plain.begin(crew, place));
    }

    private void change() {
        int crew = around(0, 1);
        switch (draw(20)) {
            case 0:
                set(0, around(2, 60));
                break;
            case 1:
                set(1, around(20, 400));
                break;
            case 2:
                set(around(0, 2), around(0, 9));
                break;
            case 3:
            case 4:
                build();
                break;
            case 5:
                check("read()", x.read(), plain.read());
                break;
            case 6:
            case 7:
                begin(crew);
                break;
            case 8:
            case 9:
                check("takeUp(" + crew + ")", x.takeUp(crew), plain.takeUp(crew));
                break;
            case 10:
                if (draw(3) == 0) {
                    check("clear()", x.clear(), plain.clear());
                }
                break;
            default:
                check("lay(" + crew + ")", x.lay(crew), plain.lay(crew));
        }
    }

    private void ask() {
        int steps = plain.count(3);
        int step = around(0, steps);
        int crew = around(0, 1);
        int what;
        switch (draw(12)) {
            case 0:
            case 1:
            case 2:
                what = around(0, 7);
                check("step(" + step + ", " + what + ")", x.step(step, what), plain.step(step, what));
                break;
            case 3:
            case 4:
            case 5:
                what = around(0, 6);
                check("crew(" + crew + ", " + what + ")", x.crew(crew, what), plain.crew(crew, what));
                break;
            case 6:
                what = around(0, 1);
                check("ifMet(" + step + ", " + what + ")", x.ifMet(step, what), plain.ifMet(step, what));
                break;
            case 7:
                check("bestBeginning(" + crew + ")", x.bestBeginning(crew), plain.bestBeginning(crew));
                break;
            case 8:
                check("ifLaid(" + step + ")", x.ifLaid(step), plain.ifLaid(step));
                break;
            case 9:
                if (draw(3) == 0) {
                    check("leastTrim()", x.leastTrim(), plain.leastTrim());
                }
                break;
            default:
                what = around(0, 16);
                check("count(" + what + ")", x.count(what), plain.count(what));
        }
    }

    private void write() {
        int kind = draw(10);
        if (kind < 3) {
            putText(flights());
        } else if (kind < 5) {
            putText(nearlyFlights());
        } else if (kind == 5) {
            put(anyNumber());
        } else if (kind < 8) {
            check("fault()", x.fault(), plain.fault());
        } else {
            check("wipe()", x.wipe(), plain.wipe());
        }
        if (kind < 6) {
            check("fault()", x.fault(), plain.fault());
        }
    }

    private String flights() {
        StringBuilder text = new StringBuilder(plain.count(15) > 0 ? ";" : "");
        int flights = 1 + draw(3);
        for (int i = 0; i < flights; i++) {
            text.append(i > 0 ? ";" : "").append(draw(2) == 0 ? "" : 2 + draw(4) + "*");
            text.append(10 + draw(16)).append('/').append(15 + draw(26));
        }
        return text.toString();
    }

    private String nearlyFlights() {
        StringBuilder text = new StringBuilder(flights());
        text.setCharAt(draw(text.length()), SIGNS.charAt(draw(SIGNS.length())));
        return text.toString();
    }

    private void putText(String text) {
        for (int i = 0; i < text.length(); i += 8) {
            put(Texts.number(text.substring(i, Math.min(text.length(), i + 8))));
        }
    }

    private void put(long characters) {
        check("put(" + characters + ")", x.put(characters), plain.put(characters));
    }

    private long anyNumber() {
        long number = 0;
        for (int i = 0; i < 8; i++) {
            number = number << 8 | (draw(6) == 0 ? draw(256) : 32 + draw(96));
        }
        return draw(3) == 0 ? number : number >>> 8 * draw(9) % 64;
    }

    private void goBack() {
        int slot = around(0, 1);
        switch (draw(5)) {
            case 0:
                check("save(" + slot + ")", x.save(slot), plain.save(slot));
                break;
            case 1:
                check("restore(" + slot + ")", x.restore(slot), plain.restore(slot));
                break;
            default:
                check("undo()", x.undo(), plain.undo());
        }
    }
}
