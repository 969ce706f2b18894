import java.io.IOException;
import java.lang.reflect.Field;
import java.lang.reflect.Method;
import java.lang.reflect.Modifier;
import java.nio.file.DirectoryStream;
import java.nio.file.Files;
import java.nio.file.Path;
import java.util.Arrays;
import java.util.regex.Matcher;
import java.util.regex.Pattern;

/** What README.md says of the class is so: its example is run call by call, its tables leave nothing out. */
public final class ReadmeTest {
    private static final Expect EXPECT = new Expect();
    private static final Pattern MADE = Pattern.compile("ScrambledLine line = new ScrambledLine\\((.*)\\);");
    private static final Pattern CALL = Pattern.compile("line\\.(\\w+)\\((.*)\\);\\s*// (true|false|-?\\d+)(:.*)?");

    public static void main(String[] args) throws IOException, ReflectiveOperationException {
        String text = Files.readString(Path.of("README.md"));
        example(text);
        calls(text);
        statuses(text);
        tests(text);
        EXPECT.end();
    }

    private static void example(String text) throws ReflectiveOperationException {
        Matcher block = Pattern.compile("(?s)```java\\n(.*?)```").matcher(text);
        EXPECT.yes("there is an example", block.find());
        ScrambledLine line = null;
        for (String row : block.group(1).split("\n")) {
            Matcher made = MADE.matcher(row);
            Matcher call = CALL.matcher(row);
            if (made.matches()) {
                int[] three = numbers(made.group(1));
                line = new ScrambledLine(three[0], three[1], three[2]);
            } else if (call.matches()) {
                EXPECT.same(row, answer(line, call.group(1), numbers(call.group(2))), call.group(3));
            } else {
                EXPECT.yes("a row without an answer: " + row, row.isEmpty() || row.startsWith("//"));
            }
        }
    }

    private static int[] numbers(String arguments) throws ReflectiveOperationException {
        String[] parts = arguments.isEmpty() ? new String[0] : arguments.split(", ");
        int[] numbers = new int[parts.length];
        for (int i = 0; i < parts.length; i++) {
            boolean constant = parts[i].startsWith("ScrambledLine.");
            numbers[i] = constant
                    ? ScrambledLine.class.getField(parts[i].substring("ScrambledLine.".length())).getInt(null)
                    : Integer.parseInt(parts[i]);
        }
        return numbers;
    }

    private static String answer(ScrambledLine line, String name, int[] numbers) throws ReflectiveOperationException {
        Class<?>[] types = new Class<?>[numbers.length];
        Arrays.fill(types, int.class);
        Object[] boxed = Arrays.stream(numbers).boxed().toArray();
        return String.valueOf(ScrambledLine.class.getMethod(name, types).invoke(line, boxed));
    }

    private static void calls(String text) {
        for (Method m : ScrambledLine.class.getDeclaredMethods()) {
            if (Modifier.isPublic(m.getModifiers())) {
                EXPECT.yes("a row for " + m.getName(), text.contains("\n| `" + m.getName() + "("));
            }
        }
    }

    private static void statuses(String text) throws ReflectiveOperationException {
        for (Field f : ScrambledLine.class.getFields()) {
            int value = f.getInt(null);
            if (value >= 0) {
                String row = "\n| `" + f.getName() + "` | " + value + " | ";
                EXPECT.yes("a row for " + f.getName(), text.contains(row));
            }
        }
    }

    private static void tests(String text) throws IOException {
        try (DirectoryStream<Path> files = Files.newDirectoryStream(Path.of("src/test/java"), "*Test.java")) {
            for (Path file : files) {
                String name = file.getFileName().toString().replace(".java", "");
                EXPECT.yes("a row for " + name, text.contains("\n| `" + name + "` | "));
            }
        }
    }
}
