import java.io.IOException;
import java.lang.reflect.Method;
import java.nio.file.Files;
import java.nio.file.Path;
import java.util.List;
import java.util.regex.Matcher;
import java.util.regex.Pattern;

/** The example of README.md, taken from there: each call answers what the comment behind it says. */
public final class ReadmeTest {
    private static final Pattern RULES = Pattern.compile("String rules = \"(.*)\";");
    private static final Pattern CALL = Pattern.compile("x\\.(\\w+)\\((.*)\\); *// (\\S+)");
    private static final Pattern NUMBER = Pattern.compile("-?[0-9]+");

    public static void main(String[] args) throws IOException, ReflectiveOperationException {
        Due due = new Due();
        CrewShares x = new CrewShares();
        int calls = 0;
        for (String line : example(Files.readAllLines(Path.of("README.md")))) {
            Matcher rules = RULES.matcher(line);
            Matcher call = CALL.matcher(line);
            if (rules.matches()) {
                Due.write(x, rules.group(1));
            } else if (call.matches()) {
                due.yes(line, call.group(3).equals(answer(x, call.group(1), call.group(2))));
                calls++;
            }
        }
        due.yes("the example has calls", calls > 0);
        due.end();
    }

    private static List<String> example(List<String> lines) {
        int start = lines.indexOf("```java");
        List<String> behind = lines.subList(start + 1, lines.size());
        return behind.subList(0, behind.indexOf("```"));
    }

    private static String answer(CrewShares x, String name, String list) throws ReflectiveOperationException {
        String[] words = list.isEmpty() ? new String[0] : list.split(", ");
        for (Method m : CrewShares.class.getMethods()) {
            if (m.getName().equals(name) && m.getParameterCount() == words.length) {
                Object[] values = new Object[words.length];
                for (int i = 0; i < words.length; i++) {
                    values[i] = value(words[i], m.getParameterTypes()[i]);
                }
                return String.valueOf(m.invoke(x, values));
            }
        }
        return "no such call";
    }

    private static Object value(String word, Class<?> type) {
        long number = NUMBER.matcher(word).matches() ? Long.parseLong(word) : CrewShares.NONE;
        if (type == long.class) {
            return number;
        }
        return (int) number;
    }
}
