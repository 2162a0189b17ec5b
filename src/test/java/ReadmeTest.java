import java.io.IOException;
import java.lang.reflect.InvocationTargetException;
import java.lang.reflect.Method;
import java.nio.file.Files;
import java.nio.file.Path;
import java.util.HashMap;
import java.util.Map;
import java.util.regex.Matcher;
import java.util.regex.Pattern;

/** Makes the calls that README.md shows, line by line, and compares each answer with the one that stands behind it. */
public final class ReadmeTest {
    private static final Path README = Path.of("README.md");
    private static final String BLOCK_START = "```java";
    private static final String BLOCK_END = "```";
    private static final String MADE = "ShaftPlumb mine = new ShaftPlumb();";
    private static final Pattern CALL = Pattern.compile("(?:(\\w+) (\\w+) = )?mine\\.(\\w+)\\((.*)\\); +// (.+)");
    private static final int LEAST_CALLS = 30;

    private final Map<String, Integer> variables = new HashMap<>();
    private ShaftPlumb mine;
    private int calls = 0;

    public static void main(String[] args) throws IOException {
        new ReadmeTest().read(Files.readString(README));
        Check.end("ReadmeTest");
    }

    private void read(String readme) {
        boolean inside = false;
        for (String line : readme.split("\n")) {
            if (line.equals(BLOCK_START)) {
                inside = true;
            } else if (line.equals(BLOCK_END)) {
                inside = false;
            } else if (inside) {
                obey(line.trim());
            }
        }
        Check.due("README.md shows calls", calls >= LEAST_CALLS, true);
    }

    private void obey(String line) {
        if (line.equals(MADE)) {
            mine = new ShaftPlumb();
            return;
        }
        if (line.isEmpty() || line.startsWith("//")) {
            return;
        }
        Matcher call = CALL.matcher(line);
        Check.due("a call with its answer, or a comment: " + line, call.matches(), true);
        if (call.matches()) {
            calls++;
            Check.dueText(line, made(call), call.group(5));
        }
    }

    /** What a call answers, told as README.md tells it; the answer is kept if the line has a variable for it. */
    private String made(Matcher call) {
        Method method = method(call.group(3));
        String[] told = call.group(4).isEmpty() ? new String[0] : call.group(4).split(", ");
        if (method == null || method.getParameterCount() != told.length) {
            return "no such call";
        }
        Object[] arguments = new Object[told.length];
        for (int i = 0; i < told.length; i++) {
            arguments[i] = value(told[i]);
        }
        try {
            Object answer = method.invoke(mine, arguments);
            if (call.group(2) != null) {
                Check.dueText("the type of " + call.group(2), call.group(1), method.getReturnType().getName());
                variables.put(call.group(2), ((Number) answer).intValue());
            }
            return answer.equals(ShaftPlumb.NONE) ? "NONE" : answer.toString();
        } catch (InvocationTargetException e) {
            return "throws " + e.getCause().getClass().getSimpleName();
        } catch (IllegalAccessException e) {
            return "not public";
        }
    }

    private static Method method(String name) {
        for (Method method : ShaftPlumb.class.getMethods()) {
            if (method.getName().equals(name) && method.getDeclaringClass() == ShaftPlumb.class) {
                return method;
            }
        }
        return null;
    }

    private int value(String told) {
        if (told.startsWith("'")) {
            return told.charAt(1);
        }
        Integer kept = variables.get(told);
        return kept != null ? kept : Integer.parseInt(told);
    }
}
