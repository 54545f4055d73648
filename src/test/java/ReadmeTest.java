import java.io.IOException;
import java.lang.reflect.Method;
import java.nio.charset.StandardCharsets;
import java.nio.file.Files;
import java.nio.file.Path;
import java.util.List;
import java.util.regex.Matcher;
import java.util.regex.Pattern;

/** Runs the examples of README.md call by call, so that what it tells a user stays true. Started in the checkout. */
public final class ReadmeTest {
    private static final Pattern CALL = Pattern.compile("desk\\.(\\w+)\\((.*?)\\);\\s*// (-?\\d+)(:.*)?");
    private static final Pattern DOUBLE_CALL =
            Pattern.compile("Double\\.longBitsToDouble\\(desk\\.(\\w+)\\((.*?)\\)\\);\\s*// (\\S+)");
    private static final Pattern FLOAT_CALL =
            Pattern.compile("Float\\.intBitsToFloat\\(\\(int\\) desk\\.(\\w+)\\((.*?)\\)\\);\\s*// (\\S+)");
    private static final Pattern DOUBLE_BITS = Pattern.compile("Double\\.doubleToRawLongBits\\((\\S+)\\)");

    private static int wrong = 0;
    private static int examples = 0;
    private static StretchDesk desk = new StretchDesk();

    public static void main(String[] args) throws IOException, ReflectiveOperationException {
        List<String> lines = Files.readAllLines(Path.of("README.md"), StandardCharsets.UTF_8);
        boolean isExample = false;
        for (String line : lines) {
            if (line.startsWith("```")) {
                isExample = line.equals("```java");
            } else if (isExample) {
                check(line);
            }
        }
        if (examples == 0) {
            fault("README.md has no example");
        }
        checkEveryCallIsTold(String.join("\n", lines));
        if (wrong > 0) {
            System.exit(1);
        }
        System.out.println("all answers are as due");
    }

    private static void check(String line) throws ReflectiveOperationException {
        if (line.equals("StretchDesk desk = new StretchDesk();")) {
            desk = new StretchDesk();
            return;
        }
        examples++;
        Matcher call = CALL.matcher(line);
        Matcher doubleCall = DOUBLE_CALL.matcher(line);
        Matcher floatCall = FLOAT_CALL.matcher(line);
        if (call.matches()) {
            due(line, String.valueOf(answer(call)), call.group(3));
        } else if (doubleCall.matches()) {
            due(line, String.valueOf(Double.longBitsToDouble(answer(doubleCall))), doubleCall.group(3));
        } else if (floatCall.matches()) {
            due(line, String.valueOf(Float.intBitsToFloat((int) answer(floatCall))), floatCall.group(3));
        } else {
            fault("not a call with its answer: " + line);
        }
    }

    private static long answer(Matcher call) throws ReflectiveOperationException {
        Method method = methodNamed(call.group(1));
        String[] texts = call.group(2).isEmpty() ? new String[0] : call.group(2).split(", ");
        Object[] values = new Object[texts.length];
        for (int i = 0; i < texts.length; i++) {
            long value = number(texts[i]);
            boolean isInt = method.getParameterTypes()[i] == int.class;
            values[i] = isInt ? (Object) Math.toIntExact(value) : (Object) value;
        }
        return ((Number) method.invoke(desk, values)).longValue();
    }

    private static Method methodNamed(String name) throws NoSuchMethodException {
        for (Method method : StretchDesk.class.getDeclaredMethods()) {
            if (method.getName().equals(name)) {
                return method;
            }
        }
        throw new NoSuchMethodException(name);
    }

    private static long number(String text) {
        Matcher bits = DOUBLE_BITS.matcher(text);
        return bits.matches() ? Double.doubleToRawLongBits(Double.parseDouble(bits.group(1))) : Long.parseLong(text);
    }

    private static void checkEveryCallIsTold(String readme) {
        for (Method method : StretchDesk.class.getMethods()) {
            boolean isOurs = method.getDeclaringClass() == StretchDesk.class;
            if (isOurs && !readme.contains("`" + method.getName() + "(")) {
                fault("README.md does not tell of " + method.getName() + "()");
            }
            if (isOurs && !readme.contains("desk." + method.getName() + "(")) {
                fault("README.md has no example of " + method.getName() + "()");
            }
        }
    }

    private static void due(String line, String got, String want) {
        if (!got.equals(want)) {
            fault("README.md: " + line + " answered " + got);
        }
    }

    private static void fault(String text) {
        wrong++;
        System.out.println(text);
    }
}
