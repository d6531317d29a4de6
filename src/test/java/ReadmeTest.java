import java.lang.reflect.Method;
import java.lang.reflect.Modifier;
import java.nio.file.Files;
import java.nio.file.Path;
import java.util.Arrays;
import java.util.regex.Matcher;
import java.util.regex.Pattern;

/** README.md tells the truth: each line of its example answers the number that its comment begins with. */
final class ReadmeTest {
    private static final Pattern CALL = Pattern.compile("sets\\.(\\w+)\\((.*)\\);\\s*// (-?\\d+)\\b.*");

    private static final Check check = new Check("ReadmeTest");

    public static void main(String[] args) throws Exception {
        String text = Files.readString(Path.of("README.md"));
        example(text);
        eachCallIsNamed(text);
        check.holds("it says how to run the tests", text.contains("    .ci/run\n"));
        check.end();
    }

    private static void example(String text) throws Exception {
        int from = text.indexOf("```java\n") + 8;
        String[] lines = text.substring(from, text.indexOf("```", from)).split("\n");
        check.text("the first line", lines[0], "PercolateSets sets = new PercolateSets();");
        PercolateSets sets = new PercolateSets();
        for (int i = 1; i < lines.length; i++) {
            Matcher call = CALL.matcher(lines[i]);
            check.holds("a call with its answer: " + lines[i], call.matches());
            if (call.matches()) {
                check.due(lines[i], answer(sets, call.group(1), call.group(2)), Integer.parseInt(call.group(3)));
            }
        }
    }

    private static int answer(PercolateSets sets, String name, String arguments) throws Exception {
        String[] texts = arguments.isEmpty() ? new String[0] : arguments.split(", ");
        Object[] numbers = new Object[texts.length];
        Class<?>[] types = new Class<?>[texts.length];
        for (int i = 0; i < texts.length; i++) {
            numbers[i] = Long.decode(texts[i]).intValue();
        }
        Arrays.fill(types, int.class);
        return (int) PercolateSets.class.getMethod(name, types).invoke(sets, numbers);
    }

    private static void eachCallIsNamed(String text) {
        for (Method method : PercolateSets.class.getDeclaredMethods()) {
            if (Modifier.isPublic(method.getModifiers())) {
                check.holds("it names " + method.getName(), text.contains("`" + method.getName() + "("));
            }
        }
    }
}
