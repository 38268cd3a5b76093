import java.io.IOException;
import java.lang.reflect.InvocationTargetException;
import java.lang.reflect.Method;
import java.nio.file.Files;
import java.nio.file.Path;
import java.util.HashMap;
import java.util.Map;
import java.util.regex.Matcher;
import java.util.regex.Pattern;

/** The calls in README.md answer what its remarks say; run in the project's folder. */
public final class ReadmeTest {
    private static final Pattern MADE = Pattern.compile("LinkedCovers (\\w+) = new LinkedCovers\\((\\d+), (\\d+)\\);.*");
    private static final Pattern CALL =
            Pattern.compile("(?:int (\\w+) = )?(\\w+)\\.(\\w+)\\(([^)]*)\\);\\s*// ([-\\w]+).*");
    private static final Checks CHECKS = new Checks();
    private static final Map<String, LinkedCovers> OBJECTS = new HashMap<>();
    private static final Map<String, Integer> NUMBERS = new HashMap<>();

    public static void main(String[] args) throws IOException {
        boolean inCode = false;
        for (String line : Files.readAllLines(Path.of("README.md"))) {
            if (line.startsWith("```")) {
                inCode = line.equals("```java");
            } else if (inCode && !line.isBlank()) {
                follow(line);
            }
        }
        CHECKS.end();
    }

    private static void follow(String line) {
        Matcher made = MADE.matcher(line);
        Matcher call = CALL.matcher(line);
        if (made.matches()) {
            OBJECTS.put(made.group(1), new LinkedCovers(number(made.group(2)), number(made.group(3))));
        } else if (call.matches() && OBJECTS.containsKey(call.group(2))) {
            String answer = answer(OBJECTS.get(call.group(2)), call.group(3), call.group(4));
            CHECKS.yes(line + " (it answered " + answer + ")", answer.equals(call.group(5)));
            if (call.group(1) != null) {
                NUMBERS.put(call.group(1), Integer.valueOf(answer));
            }
        } else {
            CHECKS.yes("a line that can be followed: " + line, false);
        }
    }

    private static String answer(LinkedCovers object, String name, String written) {
        String[] words = written.isEmpty() ? new String[0] : written.split(", ");
        Object[] numbers = new Object[words.length];
        for (int i = 0; i < words.length; i++) {
            numbers[i] = number(words[i]);
        }
        for (Method method : LinkedCovers.class.getMethods()) {
            if (method.getName().equals(name) && method.getParameterCount() == numbers.length) {
                return answer(object, method, numbers);
            }
        }
        return "no such call";
    }

    private static String answer(LinkedCovers object, Method method, Object[] numbers) {
        try {
            return String.valueOf(method.invoke(object, numbers));
        } catch (InvocationTargetException e) {
            return e.getCause().getClass().getSimpleName();
        } catch (IllegalAccessException e) {
            return "no access";
        }
    }

    private static int number(String word) {
        return NUMBERS.containsKey(word) ? NUMBERS.get(word) : Integer.parseInt(word);
    }
}
