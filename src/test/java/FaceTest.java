import java.lang.reflect.Constructor;
import java.lang.reflect.Field;
import java.lang.reflect.Member;
import java.lang.reflect.Method;
import java.lang.reflect.Modifier;
import java.util.TreeSet;

/** The class shows the document's constants, constructor and methods, and no more. */
public final class FaceTest {
    private static final String[] DUE = {
        "DepotLog()",
        "NONE = -1", "WAITS = 0", "ORDERED = 1", "GOES = 2", "DONE = 3", "LOST = 4",
        "int run(int,int,int)", "boolean lead(int,int)", "int order(int,int,int,int,int)",
        "boolean breaks(int,boolean)", "boolean ails(int,boolean)", "int plug(int,int)", "int advance(int)",
        "int minute()", "int leader()", "int runs()", "int orders()", "int orderAt(int)", "int stateOf(int)",
        "int busOf(int)", "int driverOf(int)", "int charge(int)", "int promised(int)", "int minutesOf(int,int)",
    };

    public static void main(String[] args) throws IllegalAccessException {
        Check check = new Check();
        TreeSet<String> got = new TreeSet<>();
        for (Constructor<?> c : DepotLog.class.getDeclaredConstructors()) {
            if (isShown(c)) {
                got.add("DepotLog" + parameters(c.getParameterTypes()));
            }
        }
        for (Field f : DepotLog.class.getDeclaredFields()) {
            if (isShown(f)) {
                got.add(f.getName() + " = " + f.getInt(null));
            }
        }
        for (Method m : DepotLog.class.getDeclaredMethods()) {
            if (isShown(m)) {
                got.add(m.getReturnType().getSimpleName() + " " + m.getName() + parameters(m.getParameterTypes()));
            }
        }
        check.same("the face", got.toString(), new TreeSet<>(java.util.List.of(DUE)).toString());
        check.same("final", Modifier.isFinal(DepotLog.class.getModifiers()), true);
        check.end();
    }

    private static boolean isShown(Member member) {
        return !Modifier.isPrivate(member.getModifiers()) && !member.isSynthetic();
    }

    private static String parameters(Class<?>[] types) {
        StringBuilder text = new StringBuilder();
        for (Class<?> type : types) {
            text.append(text.length() == 0 ? "" : ",").append(type.getSimpleName());
        }
        return "(" + text + ")";
    }
}
