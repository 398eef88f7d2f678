import java.lang.reflect.Method;

/** Makes calls that are written as texts, as build(20, 25), put("10/15") and save(MAX). */
final class Calls {
    private Calls() {
    }

    /** Makes a call of a MeetingCarpets or a PlainHouse. */
    static int make(Object house, String call) {
        int open = call.indexOf('(');
        if (open < 0 || !call.endsWith(")")) {
            throw new IllegalArgumentException("no call: " + call);
        }
        Method method = methodOf(house, call.substring(0, open));
        try {
            return (int) method.invoke(house, argumentsOf(method, call.substring(open + 1, call.length() - 1)));
        } catch (ReflectiveOperationException e) {
            throw new IllegalStateException(call + " ends with " + e.getCause(), e);
        }
    }

    static String nameOf(String call) {
        return call.substring(0, call.indexOf('('));
    }

    private static Method methodOf(Object house, String name) {
        for (Method method : house.getClass().getDeclaredMethods()) {
            if (method.getName().equals(name)) {
                return method;
            }
        }
        throw new IllegalArgumentException("no method: " + name);
    }

    private static Object[] argumentsOf(Method method, String text) {
        if (method.getName().equals("put")) {
            return new Object[] {charactersOf(text)};
        }
        String[] words = text.isEmpty() ? new String[0] : text.split(", ");
        Object[] arguments = new Object[words.length];
        for (int i = 0; i < words.length; i++) {
            arguments[i] = numberOf(words[i]);
        }
        return arguments;
    }

    private static long charactersOf(String text) {
        if (text.startsWith("\"")) {
            if (text.length() < 3 || text.length() > 10) {
                throw new IllegalArgumentException("not 1 to 8 characters: " + text);
            }
            return Texts.number(text.substring(1, text.length() - 1));
        }
        switch (text) {
            case "MIN": return Long.MIN_VALUE;
            case "MAX": return Long.MAX_VALUE;
            default: break;
        }
        return text.startsWith("0x") ? Long.parseUnsignedLong(text.substring(2), 16) : Long.parseLong(text);
    }

    private static int numberOf(String word) {
        switch (word) {
            case "MIN": return Integer.MIN_VALUE;
            case "MAX": return Integer.MAX_VALUE;
            default: return Integer.parseInt(word);
        }
    }
}
