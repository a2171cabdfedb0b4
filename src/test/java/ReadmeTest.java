import java.io.IOException;
import java.lang.reflect.Method;
import java.lang.reflect.Modifier;
import java.nio.file.Files;
import java.nio.file.Path;
import java.util.Arrays;
import java.util.List;
import java.util.regex.Matcher;
import java.util.regex.Pattern;
import java.util.stream.Collectors;
import java.util.stream.Stream;

/** README.md as it is read: its example answers what it says, and no call and no test is left out. */
public final class ReadmeTest {
    private static final Pattern TEXT = Pattern.compile("String text = \"([^\"]*)\";");
    private static final Pattern CALL = Pattern.compile("(?m)^lease\\.(\\w+)\\(([-0-9, ]*)\\);(.*)$");
    private static final Pattern ANSWER = Pattern.compile(" *// (-?\\d+): .+");

    private static int wrong;

    private ReadmeTest() {
    }

    public static void main(String[] args) throws IOException, ReflectiveOperationException {
        String page = Files.readString(Path.of("README.md"));
        example(page);
        namesAllCalls(page);
        namesAllTests(page);
        System.out.println(wrong == 0 ? "the page is as the class" : wrong + " things on the page are not as the class");
        if (wrong != 0) {
            System.exit(1);
        }
    }

    private static void check(boolean fine, String what) {
        if (!fine) {
            wrong++;
            System.out.println("README.md: " + what);
        }
    }

    private static void example(String page) throws ReflectiveOperationException {
        int start = page.indexOf("```java");
        int end = page.indexOf("```", start + 3);
        check(start >= 0 && end > start, "no example");
        String code = page.substring(Math.max(0, start), Math.max(0, end));
        Matcher text = TEXT.matcher(code);
        check(text.find(), "no text in the example");
        HueLease lease = Edges.tell(new HueLease(), text.group(1));
        Matcher call = CALL.matcher(code);
        int calls = 0;
        while (call.find()) {
            calls++;
            Matcher answer = ANSWER.matcher(call.group(3));
            boolean told = answer.matches();
            check(told, "no answer behind " + call.group());
            long got = answer(lease, call.group(1), call.group(2));
            check(!told || got == Long.parseLong(answer.group(1)), "answered " + got + ": " + call.group());
        }
        check(calls > 10, "an example of " + calls + " calls");
    }

    private static long answer(HueLease lease, String name, String numbers) throws ReflectiveOperationException {
        Object[] values = Arrays.stream(numbers.split(",")).map(String::trim).filter(s -> !s.isEmpty())
            .map(Integer::valueOf).toArray();
        for (Method m : HueLease.class.getMethods()) {
            if (m.getName().equals(name) && m.getParameterCount() == values.length) {
                return ((Number) m.invoke(lease, values)).longValue();
            }
        }
        throw new NoSuchMethodException(name);
    }

    private static void namesAllCalls(String page) {
        for (Method m : HueLease.class.getDeclaredMethods()) {
            boolean shown = Modifier.isPublic(m.getModifiers());
            check(!shown || page.contains("`" + m.getName() + "`"), "does not name " + m.getName());
        }
    }

    private static void namesAllTests(String page) throws IOException {
        List<String> names;
        try (Stream<Path> files = Files.list(Path.of("src/test/java"))) {
            names = files.map(f -> f.getFileName().toString()).filter(f -> f.endsWith(".java")).collect(Collectors.toList());
        }
        for (String name : names) {
            check(page.contains("`" + name.replace(".java", "") + "`"), "does not name " + name);
        }
    }
}
