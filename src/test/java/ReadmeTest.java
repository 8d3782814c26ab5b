import java.io.IOException;
import java.lang.reflect.Method;
import java.lang.reflect.Modifier;
import java.nio.file.Files;
import java.nio.file.Path;
import java.util.regex.Matcher;
import java.util.regex.Pattern;
import java.util.stream.Stream;

/** README.md: the answers that it tells of its example, and that no call and no test is left out. */
public final class ReadmeTest {
    private static final Path PAGE = Path.of("README.md");
    private static final Path TESTS = Path.of("src/test/java");

    public static void main(String[] args) throws Exception {
        String page = Files.readString(PAGE);
        answers(page);
        callsNamed(page);
        testsNamed(page);
        Due.end();
    }

    private static void answers(String page) throws Exception {
        HiredClaque x = new HiredClaque();
        Matcher told = Pattern.compile("(?m)^x\\.(\\w+)\\(([^)]*)\\);\\s+// (-?\\d+):").matcher(page);
        int calls = 0;
        while (told.find()) {
            Method method = named(told.group(1));
            Object answer = method.invoke(x, arguments(method, told.group(2)));
            Due.eq("README: " + told.group(), ((Number) answer).longValue(), Long.parseLong(told.group(3)));
            calls++;
        }
        Due.eq("README: calls of the example", calls, page.lines().filter(line -> line.startsWith("x.")).count());
        Due.eq("README: there is an example", calls > 9 ? 1 : 0, 1);
    }

    private static Method named(String name) {
        return Stream.of(HiredClaque.class.getDeclaredMethods())
            .filter(m -> Modifier.isPublic(m.getModifiers()) && m.getName().equals(name)).findFirst().orElseThrow();
    }

    private static Object[] arguments(Method method, String told) {
        Class<?>[] kinds = method.getParameterTypes();
        String[] numbers = told.isEmpty() ? new String[0] : told.split(", ");
        Object[] arguments = new Object[numbers.length];
        for (int i = 0; i < numbers.length; i++) {
            long v = Long.parseLong(numbers[i].replace("L", ""));
            arguments[i] = kinds[i] == long.class ? (Object) v : (Object) (int) v;
        }
        return arguments;
    }

    private static void callsNamed(String page) {
        for (Method method : HiredClaque.class.getDeclaredMethods()) {
            if (Modifier.isPublic(method.getModifiers())) {
                Due.eq("README names " + method.getName(), page.contains("`" + method.getName() + "`") ? 1 : 0, 1);
            }
        }
    }

    private static void testsNamed(String page) throws IOException {
        try (Stream<Path> files = Files.list(TESTS)) {
            for (Path file : (Iterable<Path>) files::iterator) {
                String name = file.getFileName().toString().replace(".java", "");
                if (name.endsWith("Test")) {
                    Due.eq("README names " + name, page.contains("| " + name + " |") ? 1 : 0, 1);
                }
            }
        }
    }
}
