import java.io.IOException;
import java.lang.reflect.InvocationTargetException;
import java.lang.reflect.Method;
import java.nio.file.Files;
import java.nio.file.Path;
import java.util.ArrayList;
import java.util.List;
import java.util.regex.Matcher;
import java.util.regex.Pattern;

/**
 * README.md tells the truth: its face is the document's, and behind each call of its example stands
 * the answer that the class gives. It is run from the project's directory.
 */
public final class InterRequestReadme {
    private static final Path README = Path.of("README.md");
    private static final Path DOCUMENT = Path.of("../shared/DOC.md");
    private static final Pattern MADE = Pattern.compile("InterRequest x = new InterRequest\\((\\d+)\\); +// .+");
    private static final Pattern CALL =
        Pattern.compile("(?:int (\\w+) = )?x\\.(\\w+)\\(([^)]*)\\); +// (-?\\d+|NoSuchElementException): .+");

    private static int wrong = 0;

    private InterRequest x = null;
    /** The example's one variable beside x, and its value. */
    private String name = "";
    private String value = "";

    private static void fault(String text) {
        wrong++;
        System.out.println(text);
    }

    /** The lines of the first block of Java behind a heading. */
    private static List<String> block(Path file, String heading) throws IOException {
        List<String> lines = Files.readAllLines(file);
        List<String> block = new ArrayList<>();
        int start = lines.indexOf(heading);
        while (start >= 0 && start < lines.size() && !lines.get(start).equals("```java")) {
            start++;
        }
        for (int i = start + 1; start >= 0 && i < lines.size() && !lines.get(i).equals("```"); i++) {
            block.add(lines.get(i));
        }
        if (block.isEmpty()) {
            fault(file + " has no block of Java behind '" + heading + "'");
        }
        return block;
    }

    private static void face() throws IOException {
        List<String> got = block(README, "### The public face");
        List<String> want = block(DOCUMENT, "## The public face");
        if (!got.equals(want)) {
            fault("the face in README.md is " + got + ", the document's is " + want);
        }
    }

    private static Object argument(Class<?> type, String text) {
        return type == boolean.class ? (Object) Boolean.valueOf(text) : (Object) Integer.valueOf(text);
    }

    private static Method named(String wanted) {
        for (Method m : InterRequest.class.getMethods()) {
            if (m.getDeclaringClass() == InterRequest.class && m.getName().equals(wanted)) {
                return m;
            }
        }
        throw new IllegalArgumentException("no such method: " + wanted);
    }

    private String answer(String called, String arguments) throws IllegalAccessException {
        Method m = named(called);
        String[] texts = arguments.split(", ");
        Object[] values = new Object[texts.length];
        for (int i = 0; i < texts.length; i++) {
            values[i] = argument(m.getParameterTypes()[i], texts[i].equals(name) ? value : texts[i]);
        }
        try {
            return m.invoke(x, values).toString();
        } catch (InvocationTargetException e) {
            return e.getCause().getClass().getSimpleName();
        }
    }

    private void line(String text) throws IllegalAccessException {
        Matcher made = MADE.matcher(text);
        Matcher call = CALL.matcher(text);
        if (made.matches()) {
            x = new InterRequest(Integer.parseInt(made.group(1)));
        } else if (x == null || !call.matches()) {
            fault("not a call with its answer: " + text);
        } else {
            String got = answer(call.group(2), call.group(3));
            if (call.group(1) != null) {
                name = call.group(1);
                value = got;
            }
            if (!got.equals(call.group(4))) {
                fault("the example's " + text + " is answered " + got);
            }
        }
    }

    private void example() throws IOException, IllegalAccessException {
        for (String text : block(README, "### An example")) {
            line(text);
        }
    }

    public static void main(String[] args) throws IOException, IllegalAccessException {
        face();
        new InterRequestReadme().example();
        System.out.println(wrong == 0 ? "README.md is as due" : wrong + " faults of README.md");
        if (wrong != 0) {
            System.exit(1);
        }
    }
}
