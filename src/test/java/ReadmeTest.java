import java.io.IOException;
import java.lang.reflect.InvocationTargetException;
import java.lang.reflect.Method;
import java.lang.reflect.Modifier;
import java.nio.file.Files;
import java.nio.file.Path;
import java.util.List;
import java.util.regex.Matcher;
import java.util.regex.Pattern;

/** What README.md says of the calls: its example is run, and its table has every method of the face. */
public final class ReadmeTest {
    private static final Pattern CALL =
            Pattern.compile("press\\.(\\w+)\\((.*)\\);\\s+// (throws )?(\\w+|-\\d+)(:.*)?");
    private static final Check CHECK = new Check();

    public static void main(String[] args) throws IOException, IllegalAccessException {
        List<String> readme = Files.readAllLines(Path.of("README.md"));
        example(readme.subList(readme.indexOf("```java") + 1, readme.size()));
        for (Method method : FixedPress.class.getDeclaredMethods()) {
            if (Modifier.isPublic(method.getModifiers())) {
                rowOf(method, readme);
            }
        }
        CHECK.end();
    }

    private static void example(List<String> lines) throws IllegalAccessException {
        FixedPress press = new FixedPress();
        CHECK.isTrue("a new object first", lines.get(0).equals("FixedPress press = new FixedPress();"));
        for (String line : lines.subList(1, lines.indexOf("```"))) {
            Matcher call = CALL.matcher(line);
            boolean isCall = call.matches();
            CHECK.isTrue("a call with its answer: " + line, isCall);
            if (isCall) {
                String got = answer(press, call.group(1), call.group(2));
                String due = call.group(3) == null ? Long.toString(number(call.group(4))) : call.group(4);
                CHECK.isTrue(line + " answers " + got + ": that", got.equals(due));
            }
        }
    }

    /** What the call answers, or the name of what it throws. */
    private static String answer(FixedPress press, String name, String given) throws IllegalAccessException {
        String[] texts = given.isEmpty() ? new String[0] : given.split(", ");
        Object[] numbers = new Object[texts.length];
        for (int i = 0; i < texts.length; i++) {
            numbers[i] = (int) number(texts[i]);
        }
        try {
            return named(name).invoke(press, numbers).toString();
        } catch (InvocationTargetException e) {
            return e.getCause().getClass().getSimpleName();
        }
    }

    private static Method named(String name) {
        for (Method method : FixedPress.class.getDeclaredMethods()) {
            if (method.getName().equals(name) && Modifier.isPublic(method.getModifiers())) {
                return method;
            }
        }
        throw new IllegalStateException("README.md calls what is not there: " + name);
    }

    private static long number(String text) {
        if (text.startsWith("'")) {
            return text.charAt(1);
        }
        return text.startsWith("0x") ? Long.parseUnsignedLong(text.substring(2), 16) : Long.parseLong(text);
    }

    /** The row names just the exceptions that the method declares. */
    private static void rowOf(Method method, List<String> readme) {
        String begin = "| `" + method.getReturnType() + " " + method.getName() + "(";
        List<String> rows = readme.stream().filter(line -> line.startsWith(begin)).toList();
        CHECK.equal("rows of " + method.getName(), rows.size(), 1);
        for (String row : rows) {
            int named = row.split("\\w+Exception: ", -1).length - 1;
            CHECK.equal(method.getName() + " throws so many", named, method.getExceptionTypes().length);
            CHECK.isTrue(method.getName() + " throws nothing", (named == 0) == row.endsWith("| nothing |"));
            for (Class<?> type : method.getExceptionTypes()) {
                CHECK.isTrue(row + " has " + type.getSimpleName(), row.contains(type.getSimpleName() + ": "));
            }
        }
    }
}
