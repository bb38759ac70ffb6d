import java.lang.reflect.Method;
import java.lang.reflect.Modifier;
import java.nio.file.Files;
import java.nio.file.Path;
import java.util.HashSet;
import java.util.Set;
import java.util.regex.Matcher;
import java.util.regex.Pattern;

/** Makes the calls that README.md shows, in order on one object, and looks whether each answers as it says there. */
public final class ReadmeTest {
    private static final Pattern EXAMPLE = Pattern.compile("(?s)```java\n(.*?)```");
    private static final Pattern TYPED = Pattern.compile(
        "for \\(char c : \"([^\"]*)\"\\.toCharArray\\(\\)\\) x\\.letter\\(c\\);");
    private static final Pattern CALL = Pattern.compile("x\\.(\\w+)\\(([^)]*)\\);\\s+// (-?\\d+): .*");
    private static final String START = "TreeActs x = new TreeActs();";

    private static int wrong = 0;

    public static void main(String[] args) throws Exception {
        Matcher example = EXAMPLE.matcher(Files.readString(Path.of("README.md")));
        if (example.find()) {
            runLines(example.group(1).split("\n"));
        } else {
            tellWrong("README.md has no example");
        }
        System.out.println(wrong == 0 ? "README.md tells what is answered" : wrong + " lines of README.md are wrong");
        if (wrong != 0) {
            System.exit(1);
        }
    }

    private static void runLines(String[] lines) throws Exception {
        TreeActs x = new TreeActs();
        Set<String> shown = new HashSet<>(Set.of("letter", "digest"));
        for (String line : lines) {
            Matcher typed = TYPED.matcher(line);
            Matcher call = CALL.matcher(line);
            if (typed.matches()) {
                Due.type(x, typed.group(1));
            } else if (call.matches()) {
                shown.add(call.group(1));
                runCall(x, line, call);
            } else if (!line.isBlank() && !line.startsWith("//") && !line.equals(START)) {
                tellWrong("no call that can be made: " + line);
            }
        }
        for (Method method : TreeActs.class.getDeclaredMethods()) {
            if (Modifier.isPublic(method.getModifiers()) && !shown.contains(method.getName())) {
                tellWrong("not shown: " + method.getName());
            }
        }
    }

    private static void runCall(TreeActs x, String line, Matcher call) throws Exception {
        String[] numbers = call.group(2).isEmpty() ? new String[0] : call.group(2).split(", ");
        long want = Long.parseLong(call.group(3));
        Method method = methodNamed(call.group(1), numbers.length);
        if (method == null) {
            tellWrong("no such call: " + line);
            return;
        }
        Object[] given = new Object[numbers.length];
        for (int i = 0; i < given.length; i++) {
            given[i] = method.getParameterTypes()[i] == boolean.class
                ? (Object) Boolean.valueOf(numbers[i]) : (Object) Integer.valueOf(numbers[i]);
        }
        long got = ((Number) method.invoke(x, given)).longValue();
        if (got != want) {
            tellWrong(line + " (answered " + got + ")");
        }
    }

    private static Method methodNamed(String name, int parameters) {
        for (Method method : TreeActs.class.getMethods()) {
            if (method.getName().equals(name) && method.getParameterCount() == parameters) {
                return method;
            }
        }
        return null;
    }

    private static void tellWrong(String what) {
        wrong++;
        System.out.println("README.md: " + what);
    }
}
