import java.lang.reflect.Method;
import java.nio.file.Files;
import java.nio.file.Path;
import java.util.regex.Matcher;
import java.util.regex.Pattern;

/** Makes the calls that README.md shows, from the first to the last; each has to answer what is told behind it. */
public final class ReadmeTest {
    private static final Pattern CALL = Pattern.compile("row\\.(\\w+)\\(([^)]*)\\);\\s*// (-?\\d+)");

    private static int calls = 0;
    private static int wrong = 0;

    private ReadmeTest() {
    }

    public static void main(String[] args) throws Exception {
        DeadRuns row = new DeadRuns();
        for (String line : Files.readAllLines(Path.of(args.length > 0 ? args[0] : "README.md"))) {
            if (line.startsWith("row.")) {
                call(row, line);
            }
        }
        System.out.println("README.md: " + calls + " calls, " + wrong + " not as it tells");
        if (wrong != 0 || calls == 0) {
            System.exit(1);
        }
    }

    private static void call(DeadRuns row, String line) throws Exception {
        calls++;
        Matcher matcher = CALL.matcher(line);
        if (!matcher.matches()) {
            wrong++;
            System.out.println("README.md: no call with an answer: " + line);
            return;
        }
        String answer = String.valueOf(answer(row, matcher.group(1), matcher.group(2)));
        if (!answer.equals(matcher.group(3))) {
            wrong++;
            System.out.println("README.md: " + line + ", but it answered " + answer);
        }
    }

    private static Object answer(DeadRuns row, String name, String told) throws Exception {
        String[] numbers = told.isEmpty() ? new String[0] : told.split(", ");
        for (Method method : DeadRuns.class.getMethods()) {
            if (method.getName().equals(name) && method.getParameterCount() == numbers.length) {
                Object[] arguments = new Object[numbers.length];
                for (int i = 0; i < numbers.length; i++) {
                    arguments[i] = number(numbers[i], method.getParameterTypes()[i] == long.class);
                }
                return method.invoke(row, arguments);
            }
        }
        return "nothing: there is no such method";
    }

    private static Object number(String told, boolean isLong) throws Exception {
        if (told.startsWith("DeadRuns.")) {
            return DeadRuns.class.getField(told.substring("DeadRuns.".length())).getInt(null);
        }
        long number = Long.decode(told.replaceAll("L$", ""));
        return isLong ? (Object) number : (Object) Math.toIntExact(number);
    }
}
