import java.io.IOException;
import java.lang.reflect.InvocationTargetException;
import java.lang.reflect.Method;
import java.nio.charset.StandardCharsets;
import java.nio.file.Files;
import java.nio.file.Path;
import java.util.Set;
import java.util.TreeSet;
import java.util.regex.Matcher;
import java.util.regex.Pattern;

/** Makes every call that README.md shows, and compares its answer with the first word behind it. */
public final class ReadmeTest {
    private static final Pattern CALL = Pattern.compile("x\\.(\\w+)\\((.*)\\);\\s+// ([^\\s,]+).*");
    private static final String ANEW = "SelfishJunction x = new SelfishJunction();";

    public static void main(String[] args) throws IOException {
        String readme = Files.readString(Path.of("README.md"), StandardCharsets.UTF_8);
        Set<String> shown = new TreeSet<>();
        Matcher blocks = Pattern.compile("(?s)```java\n(.*?)```").matcher(readme);
        StringBuilder lines = new StringBuilder();
        while (blocks.find()) {
            lines.append(blocks.group(1));
        }
        follow(lines.toString().split("\n"), shown);
        for (Method method : SelfishJunction.class.getMethods()) {
            if (method.getDeclaringClass() == SelfishJunction.class) {
                Check.due(method.getName() + " is shown", shown.contains(method.getName()), true);
            }
        }
        for (String test : new String[] {"src/test/java", "../shared/tests"}) {
            Check.due("the tests under " + test + " are told of", readme.contains(test), true);
        }
        Check.finish();
    }

    private static void follow(String[] lines, Set<String> shown) {
        SelfishJunction x = null;
        for (String line : lines) {
            Matcher call = CALL.matcher(line);
            if (line.equals(ANEW)) {
                x = new SelfishJunction();
            } else if (call.matches()) {
                shown.add(call.group(1));
                Check.due(call.group(1) + "(" + call.group(2) + ")", answer(x, call.group(1), call.group(2)),
                    call.group(3));
            } else if (!line.isBlank() && !line.startsWith("//")) {
                Check.due("a line of README.md", line, "a call and its answer");
            }
        }
    }

    private static String answer(SelfishJunction x, String name, String list) {
        String[] words = list.isEmpty() ? new String[0] : list.split(", ");
        try {
            for (Method method : SelfishJunction.class.getMethods()) {
                if (method.getName().equals(name) && method.getParameterCount() == words.length) {
                    return String.valueOf(method.invoke(x, arguments(method, words)));
                }
            }
            return "no such call";
        } catch (InvocationTargetException e) {
            return e.getCause().getClass().getSimpleName();
        } catch (IllegalAccessException e) {
            return "no public call";
        }
    }

    private static Object[] arguments(Method method, String[] words) {
        Object[] arguments = new Object[words.length];
        for (int i = 0; i < words.length; i++) {
            Class<?> kind = method.getParameterTypes()[i];
            if (kind == char.class) {
                arguments[i] = words[i].charAt(1);
            } else if (kind == boolean.class) {
                arguments[i] = words[i].equals("true");
            } else {
                arguments[i] = words[i].startsWith("0b") ? Integer.parseInt(words[i].substring(2), 2)
                    : Integer.parseInt(words[i]);
            }
        }
        return arguments;
    }
}
