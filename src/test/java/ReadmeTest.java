import java.io.IOException;
import java.lang.reflect.Method;
import java.lang.reflect.Modifier;
import java.nio.file.Files;
import java.nio.file.Path;
import java.util.Set;
import java.util.TreeSet;
import java.util.regex.Matcher;
import java.util.regex.Pattern;

/** The example of README.md, call by call, and that it tells of every call of the face. */
public final class ReadmeTest {
    private static final Pattern LINE = Pattern.compile("(?m)^x\\.(\\w+)\\(([^)]*)\\); *// (-?\\d+): (.*)$");
    private static final Pattern TEXT = Pattern.compile("so on for \"([^\"]*)\"");

    public static void main(String[] args) throws ReflectiveOperationException, IOException {
        String readme = Files.readString(Path.of("README.md"));
        example(readme);
        everyCall(readme);
        Due.close();
    }

    private static void example(String readme) throws ReflectiveOperationException {
        GuardCells x = new GuardCells();
        Set<String> told = new TreeSet<>();
        Matcher line = LINE.matcher(readme);
        while (line.find()) {
            told.add(line.group(1));
            String call = line.group(1) + "(" + line.group(2) + ")";
            Due.due(call, answer(x, line.group(1), line.group(2)), Long.parseLong(line.group(3)));
            Matcher text = TEXT.matcher(line.group(4));
            if (text.find()) {
                Due.type(x, text.group(1).substring(1));
            }
        }
        Due.holds("that the example has calls, more than these: " + told, told.size() > 10);
    }

    private static long answer(GuardCells x, String name, String numbers) throws ReflectiveOperationException {
        String[] words = numbers.isEmpty() ? new String[0] : numbers.split(", ");
        Object[] given = new Object[words.length];
        for (int i = 0; i < words.length; i++) {
            boolean letter = words[i].startsWith("'");
            given[i] = letter ? (int) words[i].charAt(1) : Integer.parseInt(words[i]);
        }
        for (Method method : GuardCells.class.getMethods()) {
            if (method.getName().equals(name) && method.getParameterCount() == given.length) {
                return ((Number) method.invoke(x, given)).longValue();
            }
        }
        throw new NoSuchMethodException(name);
    }

    private static void everyCall(String readme) {
        for (Method method : GuardCells.class.getDeclaredMethods()) {
            if (Modifier.isPublic(method.getModifiers())) {
                Due.holds("that README.md tells of " + method.getName(), readme.contains("`" + method.getName() + "("));
            }
        }
    }
}
