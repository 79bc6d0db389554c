import java.lang.reflect.Constructor;
import java.lang.reflect.Field;
import java.lang.reflect.Method;
import java.lang.reflect.Modifier;
import java.util.Arrays;
import java.util.TreeSet;

/** The class shows the document's face and nothing else. */
public final class InterRequestFace {
    private static final String[] FACE = {
        "InterRequest(int)",
        "DOUBLE = -6",
        "FULL = -4",
        "NONE = -1",
        "RANGE = -2",
        "STATE = -3",
        "WRONG = -5",
        "about(int, int) throws NoSuchElementException",
        "ask(int, int)",
        "back(int, int)",
        "cancel(int, int)",
        "condition(int, boolean, int)",
        "lender(int, int)",
        "message(int, int, int, int, int, int)",
        "overdue(int, int) throws NoSuchElementException",
        "received(int, int)",
        "send(int, int)",
        "span(int)",
        "statistics(int, int)",
        "told(int, int, int) throws NoSuchElementException",
        "waits(int)",
    };

    private static String names(Class<?>[] types) {
        StringBuilder all = new StringBuilder();
        for (Class<?> type : types) {
            all.append(all.length() == 0 ? "" : ", ").append(type.getSimpleName());
        }
        return all.toString();
    }

    private static TreeSet<String> shown() throws IllegalAccessException {
        TreeSet<String> shown = new TreeSet<>();
        for (Constructor<?> c : InterRequest.class.getDeclaredConstructors()) {
            if (!Modifier.isPrivate(c.getModifiers())) {
                shown.add("InterRequest(" + names(c.getParameterTypes()) + ")");
            }
        }
        for (Field f : InterRequest.class.getDeclaredFields()) {
            int m = f.getModifiers();
            if (!Modifier.isPrivate(m)) {
                boolean constant = Modifier.isPublic(m) && Modifier.isStatic(m) && Modifier.isFinal(m);
                shown.add(constant ? f.getName() + " = " + f.getInt(null) : "no constant: " + f);
            }
        }
        for (Method m : InterRequest.class.getDeclaredMethods()) {
            if (!Modifier.isPrivate(m.getModifiers())) {
                String thrown = names(m.getExceptionTypes());
                boolean plain = m.getModifiers() == Modifier.PUBLIC && m.getReturnType() == int.class;
                shown.add((plain ? "" : "not a public int: ") + m.getName() + "(" + names(m.getParameterTypes()) + ")"
                    + (thrown.isEmpty() ? "" : " throws " + thrown));
            }
        }
        return shown;
    }

    public static void main(String[] args) throws IllegalAccessException {
        TreeSet<String> want = new TreeSet<>(Arrays.asList(FACE));
        TreeSet<String> got = shown();
        boolean right = got.equals(want) && InterRequest.class.getModifiers() == (Modifier.PUBLIC | Modifier.FINAL);
        for (Class<?> inner : InterRequest.class.getDeclaredClasses()) {
            int m = inner.getModifiers();
            if (!Modifier.isStatic(m) || Modifier.isPublic(m) || Modifier.isProtected(m)) {
                System.out.println("shown from outside or not static: " + inner);
                right = false;
            }
        }
        System.out.println(right ? "the face is as due" : "the face is " + got + ", due is " + want);
        if (!right) {
            System.exit(1);
        }
    }
}
