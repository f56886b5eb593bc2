import java.io.IOException;
import java.lang.reflect.Method;
import java.lang.reflect.Modifier;
import java.nio.file.Files;
import java.nio.file.Path;
import java.util.List;
import java.util.regex.Matcher;
import java.util.regex.Pattern;
import java.util.stream.Collectors;
import java.util.stream.Stream;

/** That README.md tells what is: its Java lines are carried out, and it must name every call and every test. */
public final class ReadmeTest {
    static final Pattern NEW = Pattern.compile("NextKeys keys = new NextKeys\\(\\);");
    static final Pattern TEXT = Pattern.compile("for \\(char letter : \"([^\"]*)\"\\.toCharArray\\(\\)\\) \\{");
    static final Pattern FED = Pattern.compile("    keys\\.feed\\(letter\\); .*|\\}");
    static final Pattern CALL =
        Pattern.compile("keys\\.(\\w+)\\(([-\\d, ]*)\\); +// (NextKeys\\.\\w+|-?\\d+)(:.*)?");
    static final int LEAST_CALLS = 20;

    static int wrong = 0;
    static int calls = 0;
    static NextKeys keys = null;

    public static void main(String[] args) throws IOException, ReflectiveOperationException {
        String page = Files.readString(Path.of("README.md"));
        Matcher blocks = Pattern.compile("(?s)```java\n(.*?)```").matcher(page);
        while (blocks.find()) {
            for (String line : blocks.group(1).split("\n")) {
                carryOut(line);
            }
        }
        if (calls < LEAST_CALLS) {
            breach("only " + calls + " calls stand there");
        }
        namesCalls(page);
        namesTests(page);
        System.out.println(wrong == 0 ? "README.md tells what is" : wrong + " lines of README.md do not hold");
        if (wrong != 0) {
            System.exit(1);
        }
    }

    static void breach(String what) {
        wrong++;
        System.out.println("README.md: " + what);
    }

    static void carryOut(String line) throws ReflectiveOperationException {
        Matcher text = TEXT.matcher(line);
        Matcher call = CALL.matcher(line);
        if (NEW.matcher(line).matches()) {
            keys = new NextKeys();
        } else if (text.matches() && keys != null) {
            text.group(1).chars().forEach(letter -> keys.feed(letter));
        } else if (call.matches() && keys != null) {
            answers(line, call);
        } else if (!FED.matcher(line).matches()) {
            breach("a line that this test cannot read: " + line);
        }
    }

    static void answers(String line, Matcher call) throws ReflectiveOperationException {
        calls++;
        Object[] numbers = Stream.of(call.group(2).split(", ")).filter(each -> !each.isEmpty())
            .map(Integer::valueOf).toArray();
        String told = call.group(3);
        long due = told.startsWith("NextKeys.")
            ? NextKeys.class.getField(told.substring("NextKeys.".length())).getInt(null) : Long.parseLong(told);
        long got = ((Number) called(call.group(1), numbers.length).invoke(keys, numbers)).longValue();
        if (got != due) {
            breach(line + " - it answered " + got);
        }
    }

    static Method called(String name, int numbers) throws NoSuchMethodException {
        for (Method each : NextKeys.class.getMethods()) {
            if (each.getName().equals(name) && each.getParameterCount() == numbers) {
                return each;
            }
        }
        throw new NoSuchMethodException(name + " of " + numbers);
    }

    static void namesCalls(String page) {
        for (Method each : NextKeys.class.getDeclaredMethods()) {
            if (Modifier.isPublic(each.getModifiers()) && !page.contains("`" + each.getName() + "`")) {
                breach("the call " + each.getName() + " is not named");
            }
        }
    }

    static void namesTests(String page) throws IOException {
        List<String> tests;
        try (Stream<Path> files = Files.list(Path.of("src/test/java"))) {
            tests = files.map(each -> each.getFileName().toString().replace(".java", "")).collect(Collectors.toList());
        }
        for (String each : tests) {
            if (!page.contains("`" + each + "`")) {
                breach("the test " + each + " is not named");
            }
        }
    }
}
