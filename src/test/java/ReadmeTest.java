import java.io.IOException;
import java.lang.reflect.InvocationTargetException;
import java.lang.reflect.Method;
import java.nio.file.Files;
import java.nio.file.Path;
import java.util.HashSet;
import java.util.Set;
import java.util.regex.Matcher;
import java.util.regex.Pattern;

/** Makes the calls of README.md's example, one after the other, and compares what is told there. */
public final class ReadmeTest {
    private static final Pattern CALL =
            Pattern.compile("    filter\\.(\\w+)\\((.*)\\); *// (throws \\w+|true|false|-?\\d+)(,.*)?");

    public static void main(String[] args) throws IOException, IllegalAccessException {
        SyscallFilter filter = new SyscallFilter();
        Set<String> made = new HashSet<>();
        for (String line : Files.readAllLines(Path.of("README.md"))) {
            if (line.startsWith("    filter.")) {
                Matcher told = CALL.matcher(line);
                Due.yes("README.md has no answer in '" + line + "'; a call with one", told.matches());
                if (told.matches()) {
                    made.add(told.group(1));
                    Due.text(line + ": answers", answer(filter, told.group(1), told.group(2)), told.group(3));
                }
            }
        }
        Due.same("how many methods the example uses", made.size(), 15);
        Due.end();
    }

    private static String answer(SyscallFilter filter, String name, String inBrackets)
            throws IllegalAccessException {
        Method method = methodNamed(name);
        try {
            return String.valueOf(method.invoke(filter, argumentsFor(method, inBrackets)));
        } catch (InvocationTargetException e) {
            return "throws " + e.getCause().getClass().getSimpleName();
        }
    }

    private static Method methodNamed(String name) {
        for (Method method : SyscallFilter.class.getMethods()) {
            if (method.getName().equals(name)) {
                return method;
            }
        }
        throw new IllegalArgumentException("README.md calls " + name + ", which is not there");
    }

    private static Object[] argumentsFor(Method method, String inBrackets) {
        Class<?>[] types = method.getParameterTypes();
        String[] texts = inBrackets.isEmpty() ? new String[0] : inBrackets.split(", ");
        Object[] arguments = new Object[texts.length];
        for (int i = 0; i < texts.length; i++) {
            long number = Long.decode(texts[i].replace("L", ""));
            if (types[i] == long.class) {
                arguments[i] = number;
            } else {
                arguments[i] = (int) number;
            }
        }
        return arguments;
    }
}
