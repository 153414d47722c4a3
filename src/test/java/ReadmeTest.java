import java.lang.reflect.Method;
import java.lang.reflect.Modifier;
import java.nio.file.Files;
import java.nio.file.Path;
import java.util.regex.Matcher;
import java.util.regex.Pattern;

/** What README.md says of the class: its example answers as it says, and it names every call. */
public final class ReadmeTest {
    private static final Pattern TEXT = Pattern.compile("\"([^\"]*)\"\\.toCharArray\\(\\)");
    private static final Pattern CALL = Pattern.compile("^x\\.(\\w+)\\(([-0-9, ]*)\\);\\s*// (-?\\w+)");

    private static int wrong = 0;

    private static void due(String what, Object got, Object want) {
        if (!want.equals(got)) {
            wrong++;
            System.out.println("README.md: " + what + ": " + got + ", due is " + want);
        }
    }

    public static void main(String[] args) throws Exception {
        String readme = Files.readString(Path.of("README.md"));
        due("an example of Java", readme.contains("```java\n"), true);
        String example = readme.replaceFirst("(?s).*?```java\n", "").replaceFirst("(?s)```.*", "");
        due("calls of the example that were made", made(example) >= 20, true);
        for (Method method : FavoursGoRound.class.getDeclaredMethods()) {
            if (Modifier.isPublic(method.getModifiers())) {
                due("names " + method.getName(), readme.contains("`" + method.getName() + "`"), true);
            }
        }
        due("says how the tests are run", readme.contains("`.ci/run`"), true);
        System.out.println(wrong == 0 ? "README.md is as things are" : wrong + " faults of README.md");
        if (wrong != 0) {
            System.exit(1);
        }
    }

    private static int made(String example) throws Exception {
        FavoursGoRound x = new FavoursGoRound();
        int calls = 0;
        for (String line : example.split("\n")) {
            Matcher text = TEXT.matcher(line);
            if (text.find()) {
                for (char sign : text.group(1).toCharArray()) {
                    x.letter(sign);
                }
            }
            Matcher call = CALL.matcher(line);
            if (call.find()) {
                due(line, answer(x, call.group(1), call.group(2)), meant(call.group(3)));
                calls++;
            } else {
                due("a line that is not tried: " + line, line.startsWith("x."), false);
            }
        }
        return calls;
    }

    private static long answer(FavoursGoRound x, String name, String given) throws Exception {
        String[] texts = given.isBlank() ? new String[0] : given.split(", ");
        Object[] numbers = new Object[texts.length];
        for (int i = 0; i < texts.length; i++) {
            numbers[i] = Integer.parseInt(texts[i]);
        }
        for (Method method : FavoursGoRound.class.getMethods()) {
            if (method.getName().equals(name) && method.getParameterCount() == numbers.length) {
                return ((Number) method.invoke(x, numbers)).longValue();
            }
        }
        throw new IllegalStateException("no such call: " + name);
    }

    /** An answer is told as a number, or by the name of a constant. */
    private static long meant(String answer) throws Exception {
        if (answer.matches("-?[0-9]+")) {
            return Long.parseLong(answer);
        }
        return FavoursGoRound.class.getField(answer).getInt(null);
    }
}
