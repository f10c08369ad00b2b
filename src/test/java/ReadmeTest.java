import java.io.IOException;
import java.lang.reflect.Method;
import java.lang.reflect.Modifier;
import java.nio.file.Files;
import java.nio.file.Path;
import java.util.ArrayList;
import java.util.Arrays;
import java.util.List;
import java.util.regex.Matcher;
import java.util.regex.Pattern;
import java.util.stream.Stream;

/** That README.md is so: its examples answer what it says, and it names every call and every test. */
public final class ReadmeTest {
    private static final Path TESTS = Path.of("src/test/java");

    public static void main(String[] args) throws IOException, ReflectiveOperationException {
        String page = Files.readString(Path.of("README.md"));
        example(block(page, "java"));
        text(block(page, "text").strip());
        namesEveryCall(page);
        namesEveryTest(page);
        Due.end();
    }

    private static String block(String page, String sort) {
        Matcher m = Pattern.compile("```" + sort + "\n(.*?)```", Pattern.DOTALL).matcher(page);
        boolean found = m.find();
        Due.holds("README.md has an example in " + sort, found);
        return found ? m.group(1) : "";
    }

    /** Each line but the one that makes the object is a call, its comment begins with the answer. */
    private static void example(String code) throws ReflectiveOperationException {
        LastCalled x = new LastCalled();
        String[] lines = code.split("\n");
        Due.holds("the example makes an object first", lines[0].equals("LastCalled x = new LastCalled();"));
        Due.holds("the example has calls", lines.length > 1);
        Pattern form = Pattern.compile("x\\.(\\w+)\\(([-\\d, ]*)\\); *// (-?\\d+): .+");
        for (int i = 1; i < lines.length; i++) {
            Matcher m = form.matcher(lines[i]);
            if (m.matches()) {
                Due.is(lines[i], answer(x, m.group(1), m.group(2)), Long.parseLong(m.group(3)));
            } else {
                Due.holds("a call with its answer: " + lines[i], false);
            }
        }
    }

    private static long answer(LastCalled x, String call, String numbers) throws ReflectiveOperationException {
        List<Object> given = new ArrayList<>();
        for (String number : numbers.split(", *")) {
            if (!number.isEmpty()) {
                given.add(Integer.valueOf(number));
            }
        }
        Class<?>[] types = new Class<?>[given.size()];
        Arrays.fill(types, int.class);
        return ((Number) LastCalled.class.getMethod(call, types).invoke(x, given.toArray())).longValue();
    }

    private static void text(String told) {
        LastCalled x = new LastCalled();
        Due.is("items of " + told, Hamlets.read(x, told), told.chars().filter(c -> c == ';').count());
    }

    private static void namesEveryCall(String page) {
        for (Method method : LastCalled.class.getDeclaredMethods()) {
            if (Modifier.isPublic(method.getModifiers())) {
                Due.holds("README.md names " + method.getName(), page.contains("`" + method.getName() + "`"));
            }
        }
    }

    private static void namesEveryTest(String page) throws IOException {
        try (Stream<Path> files = Files.list(TESTS)) {
            files.map(file -> file.getFileName().toString().replace(".java", ""))
                    .forEach(name -> Due.holds("README.md names " + name, page.contains("`" + name + "`")));
        }
        Matcher m = Pattern.compile("`(\\w+Test)`").matcher(page);
        while (m.find()) {
            Due.holds("there is " + m.group(1), Files.exists(TESTS.resolve(m.group(1) + ".java")));
        }
    }
}
