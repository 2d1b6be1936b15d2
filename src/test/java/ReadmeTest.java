import java.io.IOException;
import java.lang.reflect.Method;
import java.nio.file.Files;
import java.nio.file.Path;
import java.util.regex.Matcher;
import java.util.regex.Pattern;

/** Whether the calls that README.md tells answer what it tells of them, run one behind the other. */
final class ReadmeTest {
    private static final Pattern CALL = Pattern.compile("circle\\.(\\w+)\\((.*?)\\); +// (-?\\d+) .*");
    private static final Pattern TEXT = Pattern.compile("`rules\\(circle, \"(.*)\"\\)`, which is (\\d+)");
    private static final int LEAST_CALLS = 30;

    private static final InnerCircle circle = new InnerCircle();
    private static final Due due = new Due("ReadmeTest");

    public static void main(String[] args) throws IOException, ReflectiveOperationException {
        String readme = Files.readString(Path.of(args.length > 0 ? args[0] : ".").resolve("README.md"));
        due.is("enough calls are told", calls(firstExample(readme)) >= LEAST_CALLS ? 1 : 0, 1);
        Matcher text = TEXT.matcher(readme);
        due.is("a TEXT is told", text.find() ? 1 : 0, 1);
        due.is(text.group(1), Due.rules(new InnerCircle(), text.group(1)), Integer.parseInt(text.group(2)));
        due.end();
    }

    private static String firstExample(String readme) {
        int from = readme.indexOf("```java");
        return readme.substring(from, readme.indexOf("```", from + 3));
    }

    private static int calls(String example) throws ReflectiveOperationException {
        int count = 0;
        for (String line : example.split("\n")) {
            if (!line.startsWith("circle.")) continue;
            Matcher call = CALL.matcher(line);
            due.is("is a call with its answer: " + line, call.matches() ? 1 : 0, 1);
            due.is(line, answer(call.group(1), call.group(2)), Integer.parseInt(call.group(3)));
            count++;
        }
        return count;
    }

    private static int answer(String name, String told) throws ReflectiveOperationException {
        String[] numbers = told.isEmpty() ? new String[0] : told.split(", ");
        for (Method method : InnerCircle.class.getDeclaredMethods()) {
            if (!method.getName().equals(name)) continue;
            Class<?>[] types = method.getParameterTypes();
            Object[] arguments = new Object[types.length];
            for (int i = 0; i < types.length; i++) {
                long number = Long.decode(numbers[i].replace("_", "").replace("L", ""));
                if (types[i] == long.class) arguments[i] = number;
                else arguments[i] = (int) number;
            }
            return (int) method.invoke(circle, arguments);
        }
        throw new NoSuchMethodException(name);
    }
}
