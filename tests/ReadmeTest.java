import java.io.IOException;
import java.lang.reflect.InvocationTargetException;
import java.lang.reflect.Method;
import java.nio.file.Files;
import java.nio.file.Path;
import java.util.Arrays;
import java.util.regex.Matcher;
import java.util.regex.Pattern;

/** What README.md tells of the class: its example, line by line, and that each call of the face is named. */
public final class ReadmeTest {
    private static final Pattern TEXT = Pattern.compile("\"([^\"]*)\"\\.toCharArray\\(\\)");
    private static final Pattern CALL = Pattern.compile("^news\\.(\\w+)\\((.*)\\); +// (-?\\d+): .*");
    private static int asked = 0;
    private static int wrong = 0;

    private static void check(boolean holds, String what) {
        if (!holds) {
            wrong++;
            System.out.println(what);
        }
    }

    private static Method methodOf(String name) {
        for (Method method : KeyholeNews.class.getMethods()) {
            if (method.getDeclaringClass() == KeyholeNews.class && method.getName().equals(name)) {
                return method;
            }
        }
        throw new IllegalStateException("README.md calls " + name + ", which the class has not");
    }

    private static Object[] argumentsOf(Method method, String told) {
        String[] parts = told.isEmpty() ? new String[0] : told.split(", ");
        Class<?>[] types = method.getParameterTypes();
        check(parts.length == types.length, method.getName() + " takes " + types.length + ", told are " + told);
        Object[] arguments = new Object[types.length];
        for (int i = 0; i < types.length; i++) {
            if (types[i] == boolean.class) {
                arguments[i] = Boolean.valueOf(parts[i]);
            } else if (types[i] == long.class) {
                arguments[i] = Long.valueOf(parts[i]);
            } else {
                arguments[i] = Integer.valueOf(parts[i]);
            }
        }
        return arguments;
    }

    private static void call(KeyholeNews news, Matcher line) throws IllegalAccessException, InvocationTargetException {
        Method method = methodOf(line.group(1));
        Object answer = method.invoke(news, argumentsOf(method, line.group(2)));
        check(answer.toString().equals(line.group(3)), line.group() + " answered " + answer);
        asked++;
    }

    private static void example(String page) throws IllegalAccessException, InvocationTargetException {
        KeyholeNews news = new KeyholeNews();
        int start = page.indexOf("```java");
        String block = page.substring(start, page.indexOf("```", start + 1));
        for (String line : block.split("\n")) {
            Matcher text = TEXT.matcher(line);
            if (text.find()) {
                for (char letter : text.group(1).toCharArray()) {
                    news.write(letter);
                }
            }
            Matcher call = CALL.matcher(line);
            if (call.matches()) {
                call(news, call);
            } else {
                check(!line.startsWith("news."), "no answer is told: " + line);
            }
        }
        check(asked > 0, "README.md has no example");
    }

    private static void names(String page) {
        for (Method method : KeyholeNews.class.getMethods()) {
            boolean own = method.getDeclaringClass() == KeyholeNews.class;
            check(!own || page.contains("`" + method.getName() + "`"), "README.md does not name " + method.getName());
        }
        for (String constant : Arrays.asList("UNKNOWN", "BAD", "LATE", "FULL", "NONE")) {
            check(page.contains("`" + constant + "`"), "README.md does not name " + constant);
        }
    }

    public static void main(String[] args) throws IOException, IllegalAccessException, InvocationTargetException {
        String source = System.getenv("KEYHOLE_SOURCE");
        Path root = source == null ? Path.of(".") : Path.of(source).resolve("../../../..").normalize();
        String page = Files.readString(root.resolve("README.md"));
        example(page);
        names(page);
        System.out.println(wrong == 0 ? asked + " lines of README.md hold" : wrong + " faults");
        if (wrong != 0) {
            System.exit(1);
        }
    }
}
