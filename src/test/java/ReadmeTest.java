import java.io.IOException;
import java.lang.reflect.Method;
import java.lang.reflect.Modifier;
import java.nio.file.DirectoryStream;
import java.nio.file.Files;
import java.nio.file.Path;
import java.util.Arrays;
import java.util.regex.Matcher;
import java.util.regex.Pattern;

/** README.md: its example, run row by row, its constants, and that it names every call and every test. */
public final class ReadmeTest {
    private static final Pattern TEXT = Pattern.compile("\"([^\"]*)\"\\.toCharArray\\(\\)\\) rights\\.write\\(letter\\);");
    private static final Pattern CALL = Pattern.compile("rights\\.(\\w+)\\(([-\\d, ]*)\\);\\s+// (-?\\d+)\\b.*");

    public static void main(String[] args) throws IOException, ReflectiveOperationException {
        String page = Files.readString(Path.of("README.md"));
        example(page);
        constants(page);
        namesCalls(page);
        namesTests(page);
        Due.end();
    }

    private static void isSo(String what, boolean so) {
        Due.is("README.md: " + what, so ? 1 : 0, 1);
    }

    private static void example(String page) throws ReflectiveOperationException {
        Matcher block = Pattern.compile("(?s)```java\n(.*?)```").matcher(page);
        isSo("it has an example", block.find());
        String[] rows = block.group(1).split("\n");
        isSo("it makes an object: " + rows[0], rows[0].startsWith("ShowRights rights = new ShowRights();"));
        ShowRights rights = new ShowRights();
        for (int row = 1; row < rows.length; row++) exampleRow(rights, rows[row]);
    }

    private static void exampleRow(ShowRights rights, String row) throws ReflectiveOperationException {
        Matcher text = TEXT.matcher(row);
        if (text.find()) {
            Due.write(rights, text.group(1));
            return;
        }
        Matcher call = CALL.matcher(row);
        isSo("a call with its answer: " + row, call.matches());
        Due.is("README.md: " + row, answer(rights, call.group(1), call.group(2)), Integer.parseInt(call.group(3)));
    }

    private static int answer(ShowRights rights, String name, String numbers) throws ReflectiveOperationException {
        String[] words = numbers.isEmpty() ? new String[0] : numbers.split(", ");
        Class<?>[] types = new Class<?>[words.length];
        Arrays.fill(types, int.class);
        Object[] values = new Object[words.length];
        for (int i = 0; i < words.length; i++) values[i] = Integer.valueOf(words[i]);
        return (Integer) ShowRights.class.getMethod(name, types).invoke(rights, values);
    }

    private static void constants(String page) throws ReflectiveOperationException {
        for (String name : new String[] {"BAD", "NO", "FULL", "NONE"}) {
            int value = ShowRights.class.getField(name).getInt(null);
            isSo(name + " is " + value, page.contains("| `" + name + "` | " + value + " |"));
        }
    }

    private static void namesCalls(String page) {
        for (Method method : ShowRights.class.getDeclaredMethods()) {
            if (!Modifier.isPublic(method.getModifiers())) continue;
            String commas = ", \\w+".repeat(Math.max(0, method.getParameterCount() - 1));
            String numbers = method.getParameterCount() == 0 ? "" : "\\w+" + commas;
            Pattern form = Pattern.compile("`" + method.getName() + "\\(" + numbers + "\\)`");
            isSo("it names " + method.getName(), form.matcher(page).find());
        }
    }

    private static void namesTests(String page) throws IOException {
        try (DirectoryStream<Path> files = Files.newDirectoryStream(Path.of("src/test/java"), "*Test.java")) {
            for (Path file : files) {
                String name = file.getFileName().toString().replace(".java", "");
                isSo("it names " + name, page.contains("`" + name + "`"));
            }
        }
    }
}
