import java.util.List;

/** All that can be found out about an object after some calls, as a text; each thing on an object of its own. */
final class Probe {
    private static final int MOST_UNDOABLE = 6;

    private Probe() {
    }

    static String allOf(List<String> calls) {
        StringBuilder text = new StringBuilder(Look.at(after(calls)));
        text.append("\npad: ").append(padOf(after(calls), ""));
        text.append("\npad and 5: ").append(padOf(after(calls), "5"));
        for (int slot = 0; slot < 2; slot++) {
            MeetingCarpets x = after(calls);
            text.append("\nslot ").append(slot).append(": ").append(x.restore(slot)).append(' ');
            text.append(Look.whatStands(x));
        }
        for (int crew = 0; crew < 2; crew++) {
            MeetingCarpets x = after(calls);
            text.append("\nlay ").append(crew).append(": ").append(x.lay(crew)).append(' ').append(Look.whatStands(x));
        }
        int undoable = Math.min(MOST_UNDOABLE, after(calls).count(16));
        for (int undone = 1; undone <= undoable + 1; undone++) {
            MeetingCarpets x = after(calls);
            for (int i = 0; i < undone; i++) {
                text.append("\nundo: ").append(x.undo());
            }
            text.append(' ').append(Look.whatStands(x));
        }
        return text.toString();
    }

    private static MeetingCarpets after(List<String> calls) {
        MeetingCarpets x = new MeetingCarpets();
        for (String call : calls) {
            Calls.make(x, call);
        }
        return x;
    }

    /** What the pad holds, with something appended: its stairs, if it has no fault and there is room for them. */
    private static String padOf(MeetingCarpets x, String appended) {
        Texts.put(x, appended);
        String fault = x.count(15) + " fault " + x.fault();
        x.clear();
        return fault + " read " + x.read() + ' ' + Look.whatStands(x);
    }
}
