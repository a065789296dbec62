import java.io.IOException;
import java.io.UncheckedIOException;
import java.lang.reflect.Method;
import java.lang.reflect.Modifier;
import java.nio.file.Files;
import java.nio.file.Path;
import java.util.List;
import java.util.regex.Matcher;
import java.util.regex.Pattern;
import java.util.stream.Collectors;
import java.util.stream.Stream;

/** README.md: its example answers what it says, and it names every call and every test. */
public final class ReadmeTest {
    private static final Pattern CALL = Pattern.compile("x\\.(\\w+)\\(([^)]*)\\); *// (-?\\d+|true|false)\\b.*");

    public static void main(String[] args) throws IOException, ReflectiveOperationException {
        Due.promise(0, "README.md");
        List<String> page = Files.readAllLines(Path.of("README.md"));
        example(page);
        namesAll(String.join("\n", page));
        Due.close();
    }

    private static void example(List<String> page) throws ReflectiveOperationException {
        NoonBasins x = new NoonBasins();
        int calls = 0;
        for (String line : page) {
            if (!line.startsWith("x.")) {
                continue;
            }
            calls++;
            Matcher call = CALL.matcher(line);
            Due.holds("a call with its answer: " + line, call.matches());
            if (call.matches()) {
                Due.is(line, answer(x, call.group(1), call.group(2)), number(call.group(3)));
            }
        }
        Due.holds("there is an example", calls > 0);
    }

    private static int answer(NoonBasins x, String name, String told) throws ReflectiveOperationException {
        String[] words = told.isBlank() ? new String[0] : told.split(", *");
        for (Method m : NoonBasins.class.getMethods()) {
            if (m.getDeclaringClass() == NoonBasins.class && m.getName().equals(name)) {
                Class<?>[] types = m.getParameterTypes();
                Due.is("arguments of " + name, words.length, types.length);
                Object[] given = new Object[words.length];
                for (int i = 0; i < words.length; i++) {
                    given[i] = types[i] == boolean.class ? (Object) Boolean.valueOf(words[i]) : (Object) number(words[i]);
                }
                return number(String.valueOf(m.invoke(x, given)));
            }
        }
        Due.holds("there is a call " + name, false);
        return 0;
    }

    private static int number(String word) {
        return switch (word) {
            case "true" -> 1;
            case "false" -> 0;
            case "NoonBasins.NONE" -> NoonBasins.NONE;
            default -> Integer.decode(word);
        };
    }

    private static void namesAll(String page) throws IOException {
        for (Method m : NoonBasins.class.getDeclaredMethods()) {
            boolean named = page.contains("`" + m.getName() + "`");
            Due.holds("README.md names " + m.getName(), named || !Modifier.isPublic(m.getModifiers()));
        }
        for (String file : names(Path.of("src/test/java"))) {
            String name = file.replace(".java", "");
            Due.holds("README.md names " + name, Pattern.compile("`" + name + "\\b").matcher(page).find());
        }
    }

    private static List<String> names(Path folder) throws IOException {
        try (Stream<Path> files = Files.list(folder)) {
            return files.map(f -> f.getFileName().toString()).sorted().collect(Collectors.toList());
        } catch (UncheckedIOException e) {
            throw e.getCause();
        }
    }
}
