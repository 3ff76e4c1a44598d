import java.io.IOException;
import java.lang.reflect.Method;
import java.lang.reflect.Modifier;
import java.nio.file.Files;
import java.nio.file.Path;
import java.util.regex.Matcher;
import java.util.regex.Pattern;

/** README.md: its morning gives the answers that stand there, and it names every call and every test. */
public final class ReadmeTest {
    private static final Pattern BLOCK = Pattern.compile("(?s)```text\n(.*?)```\n\n```java\n(.*?)```");
    private static final Pattern ROW = Pattern.compile("(garden\\.)?(\\w+)\\((.*?)\\); *// (-?\\d+):.*");

    public static void main(String[] args) throws IOException, ReflectiveOperationException {
        Path root = Path.of(System.getProperty("root", "."));
        String page = Files.readString(root.resolve("README.md"));
        Matcher block = BLOCK.matcher(page);
        Check.due("a text and a morning", block.find(), true);
        morning(block.group(1), block.group(2).split("\n"));
        for (Method method : EggGarden.class.getDeclaredMethods()) {
            if (Modifier.isPublic(method.getModifiers())) {
                Check.due("names " + method.getName(), page.contains("`" + method.getName() + "`"), true);
            }
        }
        try (var tests = Files.list(root.resolve("tests"))) {
            tests.map(test -> test.getFileName().toString()).filter(name -> name.endsWith(".java"))
                    .map(name -> "`" + name.substring(0, name.length() - 5) + "`")
                    .forEach(name -> Check.due("names " + name, page.contains(name), true));
        }
        Check.end();
    }

    private static void morning(String text, String[] rows) throws ReflectiveOperationException {
        EggGarden garden = new EggGarden();
        Check.due("the first row", rows[0].equals("EggGarden garden = new EggGarden();"), true);
        for (int i = 1; i < rows.length; i++) {
            Matcher row = ROW.matcher(rows[i]);
            Check.due("a row: " + rows[i], row.matches(), true);
            long got = row.group(1) == null ? Check.tell(garden, text) : answer(garden, row.group(2), row.group(3));
            Check.due(rows[i], got, Long.parseLong(row.group(4)));
        }
    }

    private static long answer(EggGarden garden, String name, String written) throws ReflectiveOperationException {
        String[] words = written.isEmpty() ? new String[0] : written.split(", *");
        Object[] values = new Object[words.length];
        for (int i = 0; i < words.length; i++) {
            values[i] = words[i].equals("true") || words[i].equals("false") ? (Object) Boolean.valueOf(words[i])
                    : (Object) Integer.valueOf(words[i]);
        }
        for (Method method : EggGarden.class.getDeclaredMethods()) {
            if (method.getName().equals(name) && Modifier.isPublic(method.getModifiers())) {
                Object answer = method.invoke(garden, values);
                return answer instanceof Boolean so ? so ? 1 : 0 : ((Number) answer).longValue();
            }
        }
        throw new NoSuchMethodException(name);
    }
}
