import java.io.IOException;
import java.lang.reflect.InvocationTargetException;
import java.lang.reflect.Method;
import java.lang.reflect.Modifier;
import java.nio.file.Files;
import java.nio.file.Path;
import java.util.HashSet;
import java.util.List;
import java.util.Set;
import java.util.regex.Matcher;
import java.util.regex.Pattern;

/** README.md: its example is called as it stands there, with each method of the face, and answers what it says. */
public final class ReadmeTest {
    private static final Check CHECK = new Check("ReadmeTest");
    private static final Pattern MADE = Pattern.compile(".*new ExploreShares\\((-?\\d+), (-?\\d+)\\);.*");
    private static final Pattern CALL = Pattern.compile("int \\w+ = shares\\.(\\w+)\\(([^)]*)\\); +// (-?\\d+).*");

    private static ExploreShares shares;
    private static final Set<String> CALLED = new HashSet<>();

    public static void main(String[] args) throws IOException {
        for (String line : example()) {
            follow(line);
        }
        for (Method method : ExploreShares.class.getDeclaredMethods()) {
            if (Modifier.isPublic(method.getModifiers())) {
                CHECK.due("the example calls " + method.getName(), "true",
                        Boolean.toString(CALLED.contains(method.getName())));
            }
        }
        CHECK.end();
    }

    private static List<String> example() throws IOException {
        List<String> lines = Files.readAllLines(Path.of("README.md"));
        int begin = lines.indexOf("```java") + 1;
        int length = lines.subList(begin, lines.size()).indexOf("```");
        return lines.subList(begin, begin + length);
    }

    private static void follow(String line) {
        Matcher made = MADE.matcher(line);
        Matcher call = CALL.matcher(line);
        if (made.matches()) {
            shares = new ExploreShares(Integer.parseInt(made.group(1)), Integer.parseInt(made.group(2)));
        } else if (call.matches()) {
            CALLED.add(call.group(1));
            CHECK.due(line, call.group(3), answer(call.group(1), call.group(2)));
        } else {
            CHECK.due(line, "a call with its answer", "another line");
        }
    }

    private static String answer(String name, String numbers) {
        String[] texts = numbers.isEmpty() ? new String[0] : numbers.split(", ");
        Object[] values = new Object[texts.length];
        Class<?>[] types = new Class<?>[texts.length];
        for (int i = 0; i < texts.length; i++) {
            values[i] = Integer.valueOf(texts[i]);
            types[i] = int.class;
        }
        try {
            return ExploreShares.class.getMethod(name, types).invoke(shares, values).toString();
        } catch (NoSuchMethodException | IllegalAccessException | InvocationTargetException e) {
            return e.toString();
        }
    }
}
