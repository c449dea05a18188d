import java.lang.reflect.Method;
import java.lang.reflect.Modifier;
import java.nio.charset.StandardCharsets;
import java.nio.file.Files;
import java.nio.file.Path;
import java.util.regex.Matcher;
import java.util.regex.Pattern;

/** What README.md tells: the answers of its example, and that it names every call. */
public final class ReadmeTest {
    private static final Pattern STEP = Pattern.compile("(?m)^x\\.(\\w+)\\(([^)]*)\\); *// (\\d+):");
    private static final Pattern LETTERS = Pattern.compile("\"([^\"]+)\"\\.toCharArray\\(\\)\\) x\\.letter\\(c\\);");
    private static final int STEPS = 5;
    private static int wrong = 0;

    public static void main(String[] args) throws Exception {
        String readme = Files.readString(Path.of("README.md"), StandardCharsets.UTF_8);
        checkExample(readme);
        for (Method method : StripInFiveSteps.class.getDeclaredMethods()) {
            if (!Modifier.isPublic(method.getModifiers())) continue;
            due(readme.contains("`" + method.getName() + "`"), "README.md names " + method.getName());
        }
        due(readme.contains("`l05304`") && statementsOf("l05304;") == 1, "a statement of README.md");
        due(readme.contains("`t092`") && statementsOf("t092;") == 1, "a statement of README.md");
        System.out.println(wrong == 0 ? "README.md tells what is so" : wrong + " things of README.md are not so");
        if (wrong != 0) System.exit(1);
    }

    private static void due(boolean holds, String what) {
        if (holds) return;
        wrong++;
        System.out.println("not so: " + what);
    }

    private static int statementsOf(String text) {
        StripInFiveSteps x = new StripInFiveSteps();
        for (char c : text.toCharArray()) x.letter(c);
        return x.shed();
    }

    private static void checkExample(String readme) throws ReflectiveOperationException {
        StripInFiveSteps x = new StripInFiveSteps();
        Matcher letters = LETTERS.matcher(readme);
        due(letters.find(), "the example has letters");
        for (char c : letters.group(1).toCharArray()) x.letter(c);
        Matcher step = STEP.matcher(readme);
        int steps = 0;
        while (step.find()) {
            String[] numbers = step.group(2).isEmpty() ? new String[0] : step.group(2).split(", ");
            Class<?>[] types = new Class<?>[numbers.length];
            Object[] values = new Object[numbers.length];
            for (int i = 0; i < numbers.length; i++) {
                types[i] = int.class;
                values[i] = Integer.valueOf(numbers[i]);
            }
            Object answer = StripInFiveSteps.class.getMethod(step.group(1), types).invoke(x, values);
            due(String.valueOf(answer).equals(step.group(3)), step.group() + " but it answered " + answer);
            steps++;
        }
        due(steps == STEPS, "the example has " + STEPS + " steps with an answer, but has " + steps);
    }
}
