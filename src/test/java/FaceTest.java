import java.lang.reflect.Constructor;
import java.lang.reflect.Field;
import java.lang.reflect.Method;
import java.lang.reflect.Modifier;
import java.util.Set;
import java.util.TreeSet;

/** The public face: all that the document's code block gives, with its types, and nothing else that is not private. */
final class FaceTest {
    private static final String[] METHODS = {"set(int, int)", "build(int, int)", "read()", "begin(int, int)",
        "lay(int)", "takeUp(int)", "clear()", "step(int, int)", "crew(int, int)", "count(int)", "ifMet(int, int)",
        "bestBeginning(int)", "ifLaid(int)", "leastTrim()", "put(long)", "wipe()", "fault()", "undo()", "save(int)",
        "restore(int)"};
    private static final String[] CONSTANTS = {"NO_SUCH", "BAD_VALUE", "BAD_TEXT", "TOO_MANY", "NOT_POSSIBLE", "NONE",
        "REPEAT", "ROLL", "SLACK"};

    public static void main(String[] args) {
        Due due = new Due("face");
        Set<String> wanted = new TreeSet<>();
        wanted.add("public MeetingCarpets()");
        for (String method : METHODS) {
            wanted.add("public int " + method);
        }
        for (String constant : CONSTANTS) {
            wanted.add("public static final int " + constant);
        }
        due.same("members", members().toString(), wanted.toString());
        due.same("private methods that bear a public one's name", namesUsedAgain().toString(), "[]");
        due.same("class", Modifier.toString(MeetingCarpets.class.getModifiers()), "public final");
        due.end();
    }

    private static Set<String> members() {
        Set<String> members = new TreeSet<>();
        for (Constructor<?> constructor : MeetingCarpets.class.getDeclaredConstructors()) {
            add(members, constructor.getModifiers(), "MeetingCarpets" + parameters(constructor.getParameterTypes()));
        }
        for (Method method : MeetingCarpets.class.getDeclaredMethods()) {
            add(members, method.getModifiers(),
                method.getReturnType().getName() + " " + method.getName() + parameters(method.getParameterTypes()));
        }
        for (Field field : MeetingCarpets.class.getDeclaredFields()) {
            add(members, field.getModifiers(), field.getType().getName() + " " + field.getName());
        }
        return members;
    }

    /** LANGUAGE.md, rule 1; the methods of classes inside count, too. */
    private static Set<String> namesUsedAgain() {
        Set<String> again = new TreeSet<>();
        Set<String> names = new TreeSet<>();
        for (String method : METHODS) {
            names.add(method.substring(0, method.indexOf('(')));
        }
        for (Class<?> inside : MeetingCarpets.class.getDeclaredClasses()) {
            for (Method method : inside.getDeclaredMethods()) {
                if (names.contains(method.getName())) {
                    again.add(inside.getName() + "." + method.getName());
                }
            }
        }
        return again;
    }

    private static void add(Set<String> members, int modifiers, String member) {
        if (!Modifier.isPrivate(modifiers)) {
            members.add(Modifier.toString(modifiers) + " " + member);
        }
    }

    private static String parameters(Class<?>[] types) {
        StringBuilder text = new StringBuilder("(");
        for (Class<?> type : types) {
            text.append(text.length() > 1 ? ", " : "").append(type.getName());
        }
        return text.append(')').toString();
    }
}
