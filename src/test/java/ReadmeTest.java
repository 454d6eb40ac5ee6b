import java.lang.reflect.Method;
import java.nio.file.Files;
import java.nio.file.Path;
import java.util.HashMap;
import java.util.Map;
import java.util.regex.Matcher;
import java.util.regex.Pattern;

/** The example in README.md: each of its lines is a call whose comment begins with the answer that the class gives. */
public final class ReadmeTest {
    private static final String MADE = "IslandThatLeans island = new IslandThatLeans();";
    private static final Pattern CALL =
            Pattern.compile("(?:int (\\w+) = )?island\\.(\\w+)\\((.*)\\); +// (-?\\d+|[A-Z]+)\\b.*");

    private static final Map<String, Long> NAMED = new HashMap<>();

    public static void main(String[] args) throws Exception {
        NAMED.put("NONE", -1L);
        NAMED.put("UNKNOWN", -101L);
        NAMED.put("OUTSIDE", -102L);
        NAMED.put("STATE", -103L);
        NAMED.put("FULL", -104L);
        String readme = Files.readString(Path.of("README.md"));
        int begin = readme.indexOf("```java\n") + "```java\n".length();
        example(readme.substring(begin, readme.indexOf("```", begin)));
        Due.end();
    }

    private static void example(String text) throws Exception {
        IslandThatLeans island = null;
        for (String line : text.split("\n")) {
            if (line.isBlank() || line.startsWith("// ")) {
                continue;
            }
            if (line.equals(MADE)) {
                island = new IslandThatLeans();
                continue;
            }
            Matcher call = CALL.matcher(line);
            Due.holds("a call with its answer: " + line, call.matches());
            if (call.matches()) {
                long answer = answer(island, call.group(2), call.group(3));
                Due.is(line, answer, number(call.group(4)));
                if (call.group(1) != null) {
                    NAMED.put(call.group(1), answer);
                }
            }
        }
        Due.holds("an object is made", island != null);
    }

    private static long number(String text) {
        return NAMED.containsKey(text) ? NAMED.get(text) : Long.decode(text.replace("L", ""));
    }

    private static long answer(IslandThatLeans island, String name, String told) throws Exception {
        String[] texts = told.isEmpty() ? new String[0] : told.split(", ");
        for (Method method : IslandThatLeans.class.getMethods()) {
            if (method.getName().equals(name) && method.getParameterCount() == texts.length) {
                Object[] numbers = new Object[texts.length];
                for (int i = 0; i < texts.length; i++) {
                    long number = number(texts[i]);
                    numbers[i] = method.getParameterTypes()[i] == long.class ? (Object) number : (Object) (int) number;
                }
                return ((Number) method.invoke(island, numbers)).longValue();
            }
        }
        Due.holds("there is a call " + name + "(" + told + ")", false);
        return 0;
    }
}
