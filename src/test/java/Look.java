/** All that an object tells of itself, as a text. An object with n steps is asked 32 + 8 n calls. */
final class Look {
    private Look() {
    }

    static String at(MeetingCarpets x) {
        return whatStands(x) + " pad " + x.count(15) + " fault " + x.fault() + " undo " + x.count(16);
    }

    /** All but the pad and the history. */
    static String whatStands(MeetingCarpets x) {
        StringBuilder text = new StringBuilder("count");
        for (int what = 0; what <= 14; what++) {
            text.append(' ').append(x.count(what));
        }
        for (int crew = 0; crew < 2; crew++) {
            text.append(" crew ").append(crew);
            for (int what = 0; what <= 6; what++) {
                text.append(' ').append(x.crew(crew, what));
            }
        }
        int steps = x.count(3);
        for (int step = 0; step < steps; step++) {
            text.append(" step ").append(step);
            for (int what = 0; what <= 7; what++) {
                text.append(' ').append(x.step(step, what));
            }
        }
        return text.toString();
    }
}
