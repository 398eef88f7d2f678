/** Puts texts on pads. */
final class Texts {
    private Texts() {
    }

    /** The number that stands for at most 8 characters. */
    static long number(String characters) {
        long number = 0;
        for (int i = 0; i < characters.length(); i++) {
            number = number << 8 | characters.charAt(i);
        }
        return number;
    }

    /** Puts a text, 8 characters a call. */
    static void put(MeetingCarpets x, String text) {
        for (int i = 0; i < text.length(); i += 8) {
            x.put(number(text.substring(i, Math.min(text.length(), i + 8))));
        }
    }
}
