import java.io.IOException;
import java.lang.reflect.Method;
import java.nio.file.Files;
import java.nio.file.Path;
import java.util.List;
import java.util.regex.Matcher;
import java.util.regex.Pattern;

/** Makes the calls of the example in README.md, and compares the answers that stand behind them. */
public final class ReadmeTest {
    private static final Pattern CALL = Pattern.compile("x\\.(\\w+)\\(([^)]*)\\); +// (-?[0-9.]+): .*");
    private static final Pattern TYPED = Pattern.compile("for \\(char c : \"(.*)\"\\.toCharArray\\(\\)\\) \\{ x\\.type\\(c\\); \\}");

    public static void main(String[] args) throws ReflectiveOperationException, IOException {
        LeastPopulations x = null;
        for (String line : example()) {
            Matcher typed = TYPED.matcher(line);
            Matcher call = CALL.matcher(line);
            if (line.equals("LeastPopulations x = new LeastPopulations();")) {
                x = new LeastPopulations();
            } else if (typed.matches()) {
                Make.write(x, typed.group(1));
            } else if (call.matches()) {
                Object answer = answer(x, call.group(1), call.group(2));
                if (answer instanceof Float told) {
                    Check.dueFloat(line, told, Float.parseFloat(call.group(3)));
                } else {
                    Check.due(line, (Integer) answer, Integer.parseInt(call.group(3)));
                }
            } else {
                Check.tell("this line of the example was not understood: " + line);
            }
        }
        Check.end("ReadmeTest");
    }

    private static List<String> example() throws IOException {
        List<String> lines = Files.readAllLines(Path.of("README.md"));
        int start = lines.indexOf("```java") + 1;
        return lines.subList(start, start + lines.subList(start, lines.size()).indexOf("```"));
    }

    private static Object answer(LeastPopulations x, String name, String arguments) throws ReflectiveOperationException {
        String[] told = arguments.isEmpty() ? new String[0] : arguments.split(", ");
        for (Method method : LeastPopulations.class.getMethods()) {
            Class<?>[] types = method.getParameterTypes();
            if (method.getName().equals(name) && types.length == told.length) {
                Object[] values = new Object[told.length];
                for (int index = 0; index < told.length; index++) {
                    if (types[index] == boolean.class) {
                        values[index] = Boolean.valueOf(told[index]);
                    } else {
                        values[index] = Integer.decode(told[index]);
                    }
                }
                return method.invoke(x, values);
            }
        }
        throw new IllegalStateException("there is no call " + name);
    }
}
