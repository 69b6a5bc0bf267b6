import java.io.IOException;
import java.lang.reflect.InvocationTargetException;
import java.lang.reflect.Method;
import java.nio.file.DirectoryStream;
import java.nio.file.Files;
import java.nio.file.Path;
import java.util.ArrayList;
import java.util.List;
import java.util.Set;
import java.util.TreeSet;
import java.util.regex.Matcher;
import java.util.regex.Pattern;

/**
 * README.md against the class: its examples are one run of calls from its first line to its last, and a
 * line that is a call is asked; its comment begins with the answer that is due.
 */
public final class ReadmeTest {
    private static final Pattern MADE = Pattern.compile("BorrowedTears tears = new BorrowedTears\\(\\);");
    private static final Pattern TOLD = Pattern.compile("for \\(char letter : \"(\\w+)\"\\.toCharArray\\(\\)\\) \\{");
    private static final Pattern ASKED = Pattern.compile("tears\\.(\\w+)\\(([^)]*)\\); +// (-?\\d+)\\b.*");
    private static final Pattern TELLING = Pattern.compile(" +tears\\.write\\(letter\\);  // .*");
    private static final Pattern ROW = Pattern.compile("\\| (\\w+Test) \\| .+ \\|");

    public static void main(String[] args) throws IOException, ReflectiveOperationException {
        String page = Files.readString(Path.of("README.md"));
        List<String> calls = examples(page);
        Due.sentence("README.md's examples");
        askAll(calls);
        Due.sentence("README.md's refusals");
        refusals(page);
        Due.sentence("README.md's row of tests");
        Due.same("tests in the table", testsToldIn(page).toString(), testsThatAre().toString());
        Due.end("ReadmeTest");
    }

    private static List<String> examples(String page) {
        List<String> lines = new ArrayList<>();
        Matcher block = Pattern.compile("(?s)```java\n(.*?)```").matcher(page);
        while (block.find()) {
            lines.addAll(block.group(1).lines().toList());
        }
        return lines;
    }

    private static void askAll(List<String> lines) throws ReflectiveOperationException {
        BorrowedTears tears = null;
        int refused = 0;
        for (String line : lines) {
            Matcher told = TOLD.matcher(line);
            Matcher asked = ASKED.matcher(line);
            if (MADE.matcher(line).matches()) {
                tears = new BorrowedTears();
            } else if (told.matches()) {
                Due.tell(tears, told.group(1));
            } else if (asked.matches()) {
                long want = Long.parseLong(asked.group(3));
                Due.due(line, answer(tears, asked.group(1), asked.group(2)), want);
                refused += want < 0 ? 1 : 0;
            } else {
                Due.same("a line that the test can read", TELLING.matcher(line).matches() || line.equals("}")
                        ? "" : line, "");
            }
        }
        Due.same("an object is made in the examples", tears != null ? "so" : "not", "so");
        Due.same("refused calls among the examples", refused > 0 ? "so" : "not", "so");
    }

    private static long answer(BorrowedTears tears, String name, String given) throws ReflectiveOperationException {
        String[] words = given.isEmpty() ? new String[0] : given.split(", ");
        for (Method method : BorrowedTears.class.getMethods()) {
            if (method.getName().equals(name) && method.getParameterCount() == words.length) {
                return ((Number) method.invoke(tears, values(method, words))).longValue();
            }
        }
        throw new InvocationTargetException(null, "no such call in the face: " + name);
    }

    private static Object[] values(Method method, String[] words) {
        Object[] values = new Object[words.length];
        for (int place = 0; place < words.length; place++) {
            Class<?> type = method.getParameterTypes()[place];
            if (type == boolean.class) {
                values[place] = Boolean.valueOf(words[place]);
            } else if (type == long.class) {
                values[place] = Long.valueOf(words[place]);
            } else {
                values[place] = Integer.valueOf(words[place]);
            }
        }
        return values;
    }

    private static void refusals(String page) {
        isTold(page, "`UNKNOWN` (" + BorrowedTears.UNKNOWN + ")");
        isTold(page, "`BAD` (" + BorrowedTears.BAD + ")");
        isTold(page, "`LATE` (" + BorrowedTears.LATE + ")");
        isTold(page, "`FULL` (" + BorrowedTears.FULL + ")");
        isTold(page, "`NONE` (" + BorrowedTears.NONE + ")");
    }

    private static void isTold(String page, String words) {
        Due.same("told", page.contains(words) ? words : "not told", words);
    }

    private static Set<String> testsToldIn(String page) {
        Set<String> names = new TreeSet<>();
        Matcher row = ROW.matcher(page);
        while (row.find()) {
            names.add(row.group(1));
        }
        return names;
    }

    private static Set<String> testsThatAre() throws IOException {
        Set<String> names = new TreeSet<>();
        try (DirectoryStream<Path> files = Files.newDirectoryStream(Path.of("src/test/java"), "*Test.java")) {
            for (Path file : files) {
                names.add(file.getFileName().toString().replace(".java", ""));
            }
        }
        return names;
    }
}
