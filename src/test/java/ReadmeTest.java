import java.lang.reflect.Method;
import java.lang.reflect.Modifier;
import java.nio.file.Files;
import java.nio.file.Path;
import java.util.Arrays;
import java.util.List;
import java.util.regex.Matcher;
import java.util.regex.Pattern;

/** The README's own examples: each line's answer stands behind it, and each call is named. */
public final class ReadmeTest extends Asking {
    private static final Pattern MAKES = Pattern.compile("BeforeThird x = new BeforeThird\\(\\);");
    private static final Pattern TYPES = Pattern.compile(
        "for \\(char c : \"([^\"]*)\"\\.toCharArray\\(\\)\\) \\{ x\\.type\\(c\\); \\}");
    private static final Pattern CALLS = Pattern.compile("x\\.(\\w+)\\(([-0-9, ]*)\\); +// (-?[0-9]+): .+");

    private BeforeThird x;
    private int answers;

    public static void main(String[] args) throws Exception {
        String page = Files.readString(Path.of("README.md"));
        ReadmeTest test = new ReadmeTest();
        Matcher examples = Pattern.compile("(?s)```java\n(.*?)```").matcher(page);
        while (examples.find()) {
            examples.group(1).lines().forEach(test::line);
        }
        Due.holds("answers stand there", test.answers > 20);
        for (Method m : BeforeThird.class.getDeclaredMethods()) {
            if (Modifier.isPublic(m.getModifiers())) {
                Due.holds(m.getName() + " is named", page.contains("`" + m.getName() + "("));
            }
        }
        Due.end();
    }

    private void line(String line) {
        Matcher typed = TYPES.matcher(line);
        Matcher called = CALLS.matcher(line);
        if (MAKES.matcher(line).matches()) {
            x = new BeforeThird();
        } else if (typed.matches()) {
            type(x, typed.group(1));
        } else if (called.matches()) {
            Due.is(line, call(x, called.group(1), numbers(called.group(2))), Long.parseLong(called.group(3)));
            answers++;
        } else {
            Due.holds("a line that can be run: " + line, false);
        }
    }

    private static int[] numbers(String told) {
        List<String> parts = told.isBlank() ? List.of() : Arrays.asList(told.split(", *"));
        return parts.stream().mapToInt(Integer::parseInt).toArray();
    }
}
