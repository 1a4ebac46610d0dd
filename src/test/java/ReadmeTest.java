import java.io.IOException;
import java.lang.reflect.Method;
import java.lang.reflect.Modifier;
import java.nio.charset.StandardCharsets;
import java.nio.file.Files;
import java.nio.file.Path;
import java.util.Arrays;
import java.util.HashSet;
import java.util.Set;
import java.util.regex.Matcher;
import java.util.regex.Pattern;

/** The example of README.md, line by line: each call answers the number that its comment begins with. */
public final class ReadmeTest {
    private static final Pattern CALL = Pattern.compile("x\\.(\\w+)\\((.*)\\); +// (-?\\d+)\\b.*");

    public static void main(String[] args) throws IOException, ReflectiveOperationException {
        String readme = Files.readString(Path.of("README.md"), StandardCharsets.UTF_8);
        int begin = readme.indexOf("```java\n");
        int end = readme.indexOf("```\n", begin + 1);
        Check.holds("README.md has an example", begin >= 0 && end > begin);
        Set<String> called = new HashSet<>();
        ShipFromItself x = new ShipFromItself();
        for (String line : readme.substring(begin, end).split("\n")) {
            if (line.startsWith("x.")) {
                Matcher matcher = CALL.matcher(line);
                Check.holds("a call and its answer: " + line, matcher.matches());
                long answer = answer(x, method(matcher.group(1)), matcher.group(2));
                Check.due(line, answer, Long.parseLong(matcher.group(3)));
                called.add(matcher.group(1));
            }
        }
        Check.holds("the example calls what there is: " + called, called.size() > 20);
        tellsEachCall(readme);
        Check.end();
    }

    private static Method method(String name) {
        return Arrays.stream(ShipFromItself.class.getDeclaredMethods())
            .filter(method -> method.getName().equals(name)).findFirst().orElseThrow();
    }

    private static long answer(ShipFromItself x, Method method, String told) throws ReflectiveOperationException {
        Class<?>[] types = method.getParameterTypes();
        String[] each = told.isEmpty() ? new String[0] : told.split(", ");
        Object[] numbers = new Object[types.length];
        for (int i = 0; i < types.length; i++) {
            String one = each[i].replaceAll("L$", "");
            numbers[i] = types[i] == boolean.class ? (Object) Boolean.valueOf(one)
                : types[i] == long.class ? (Object) Long.decode(one) : (Object) Integer.decode(one);
        }
        return ((Number) method.invoke(x, numbers)).longValue();
    }

    private static void tellsEachCall(String readme) {
        for (Method method : ShipFromItself.class.getDeclaredMethods()) {
            if (Modifier.isPublic(method.getModifiers())) {
                Check.holds("README.md tells " + method.getName(), readme.contains("`" + method.getName() + "("));
            }
        }
    }
}
