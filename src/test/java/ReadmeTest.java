import java.io.IOException;
import java.lang.reflect.InvocationTargetException;
import java.lang.reflect.Method;
import java.nio.file.Files;
import java.nio.file.Path;
import java.util.HashMap;
import java.util.List;
import java.util.Map;
import java.util.Set;
import java.util.TreeSet;
import java.util.regex.Matcher;
import java.util.regex.Pattern;

/**
 * The calls that README.md shows, with the answers that it writes beside them. A line of its Java that
 * this test does not understand, or a call without an answer, counts as wrong.
 */
public final class ReadmeTest {
    private static final Pattern MADE = Pattern.compile(
            "ProofChecker (\\w+) = new ProofChecker\\((-?\\d+), (-?\\d+), (-?\\d+)\\);( +//.*)?");
    private static final Pattern CALL = Pattern.compile(
            " *(\\w+)\\.(\\w+)\\((.*)\\); +// (-?\\d+|true|false|throws (\\w+))(: .*)?");
    private static final Pattern LOOP = Pattern.compile("for \\(char c : \"([^\"]*)\"\\.toCharArray\\(\\)\\) \\{");

    private static final Due due = new Due();

    private final Map<String, ProofChecker> objects = new HashMap<>();
    private final Set<String> shown = new TreeSet<>();
    /** The text whose bytes the loop that is open goes through; null outside of a loop. */
    private String loop = null;

    public static void main(String[] args) throws IOException {
        new ReadmeTest().go(Files.readAllLines(Path.of("README.md")));
        due.end();
    }

    private void go(List<String> lines) {
        boolean java = false;
        for (int n = 0; n < lines.size(); n++) {
            String line = lines.get(n);
            if (line.startsWith("```")) {
                java = line.equals("```java");
            } else if (java && !line.isBlank()) {
                due.is("README.md, line " + (n + 1) + ", understood", take(line, n + 1), true);
            }
        }
        Set<String> face = new TreeSet<>();
        for (Method method : ProofChecker.class.getMethods()) {
            if (method.getDeclaringClass() == ProofChecker.class) {
                face.add(method.getName());
            }
        }
        due.is("methods that README.md shows", shown, face);
    }

    private boolean take(String line, int number) {
        Matcher made = MADE.matcher(line);
        if (made.matches()) {
            objects.put(made.group(1), new ProofChecker(Integer.parseInt(made.group(2)),
                    Integer.parseInt(made.group(3)), Integer.parseInt(made.group(4))));
            return true;
        }
        Matcher opened = LOOP.matcher(line);
        if (opened.matches() && loop == null) {
            loop = opened.group(1);
            return true;
        }
        if (line.equals("}") && loop != null) {
            loop = null;
            return true;
        }
        Matcher call = CALL.matcher(line);
        return call.matches() && objects.containsKey(call.group(1)) && makeAll(call, number);
    }

    private boolean makeAll(Matcher call, int number) {
        String want = call.group(5) == null ? call.group(4) : "java.lang." + call.group(5);
        String name = "README.md, line " + number + ", " + call.group(2) + "(" + call.group(3) + ")";
        shown.add(call.group(2));
        if (loop == null) {
            due.is(name, make(call, call.group(3)), want);
            return true;
        }
        for (char c : loop.toCharArray()) {
            due.is(name, make(call, call.group(3).equals("c") ? String.valueOf((int) c) : call.group(3)), want);
        }
        return true;
    }

    /** What a call answers, as a text, or the exception that it throws. */
    private String make(Matcher call, String written) {
        String[] words = written.isEmpty() ? new String[0] : written.split(", ");
        for (Method method : ProofChecker.class.getMethods()) {
            if (method.getName().equals(call.group(2)) && method.getParameterCount() == words.length) {
                return outcome(method, objects.get(call.group(1)), values(method, words));
            }
        }
        return "no such method";
    }

    private static Object[] values(Method method, String[] words) {
        Object[] values = new Object[words.length];
        for (int n = 0; n < words.length; n++) {
            boolean number = method.getParameterTypes()[n] == int.class;
            values[n] = number ? (Object) Integer.valueOf(words[n]) : (Object) Boolean.valueOf(words[n]);
        }
        return values;
    }

    private static String outcome(Method method, ProofChecker object, Object[] values) {
        try {
            return String.valueOf(method.invoke(object, values));
        } catch (InvocationTargetException e) {
            return e.getCause().getClass().getName();
        } catch (IllegalAccessException e) {
            return "not to be seen";
        }
    }
}
