import java.io.File;
import java.io.IOException;
import java.lang.reflect.InvocationTargetException;
import java.lang.reflect.Method;
import java.nio.file.Files;
import java.nio.file.Path;
import java.util.HashMap;
import java.util.Map;
import java.util.regex.Matcher;
import java.util.regex.Pattern;

/**
 * README.md as it now stands: its example is played line by line, and answers what it tells, and it
 * names each file of the tests. It is run from the folder of the project.
 */
public final class ReadmeTest {
    private static final Pattern LINE = Pattern.compile("(?:int (\\w+) = )?hall\\.(\\w+)\\((.*?)\\);(?: *// (.*))?");
    /** A comment begins with the answer, or ends with it behind a sum. */
    private static final Pattern ANSWER = Pattern.compile("(?:\\d.*= |)(-?\\d+)(?:$|:.*| \\w+.*)");

    private final InkHall hall;
    private final Map<String, Integer> names;
    private int told;

    private ReadmeTest() {
        hall = new InkHall();
        names = new HashMap<String, Integer>();
    }

    public static void main(String[] args) throws IOException, ReflectiveOperationException {
        String text = Files.readString(Path.of("README.md"));
        new ReadmeTest().play(text);
        checkFiles(text);
        Check.end("ReadmeTest");
    }

    private void play(String text) throws ReflectiveOperationException {
        String[] parts = text.split("```");
        Check.that("it has one example", parts.length == 3 && parts[1].startsWith("java\n"));
        String[] lines = parts.length == 3 ? parts[1].split("\n") : new String[0];
        for (int i = 2; i < lines.length; i++) {
            Matcher line = LINE.matcher(lines[i]);
            if (line.matches()) {
                check(line);
            } else {
                Check.that("a line of the example is no call: " + lines[i], false);
            }
        }
        Check.that("the example begins with a hall",
                lines.length > 1 && lines[1].equals("InkHall hall = new InkHall();"));
        Check.that("the example tells answers", told > 5);
    }

    private void check(Matcher line) throws ReflectiveOperationException {
        String given = line.group(3);
        String[] words = given.isEmpty() ? new String[0] : given.split(", ");
        int got = call(line.group(2), words, line.group());
        if (line.group(1) != null) {
            names.put(line.group(1), got);
        }
        Matcher answer = ANSWER.matcher(line.group(4) == null ? "" : line.group(4));
        if (answer.matches()) {
            told++;
            Check.is(line.group(), Integer.parseInt(answer.group(1)), got);
        }
    }

    private int call(String name, String[] words, String line) throws ReflectiveOperationException {
        for (Method method : InkHall.class.getMethods()) {
            if (method.getName().equals(name) && method.getParameterCount() == words.length) {
                Object[] values = new Object[words.length];
                for (int i = 0; i < values.length; i++) {
                    values[i] = valueOf(words[i]);
                }
                return answerOf(method, values, line);
            }
        }
        Check.that("there is no such method: " + line, false);
        return InkHall.NOTHING;
    }

    private int answerOf(Method method, Object[] values, String line) throws IllegalAccessException {
        try {
            return (Integer) method.invoke(hall, values);
        } catch (InvocationTargetException thrown) {
            Check.that(line + " threw " + thrown.getCause(), false);
            return InkHall.NOTHING;
        }
    }

    private Object valueOf(String word) throws ReflectiveOperationException {
        if (word.equals("true") || word.equals("false")) {
            return word.equals("true");
        }
        if (word.startsWith("InkHall.")) {
            return InkHall.class.getField(word.substring("InkHall.".length())).getInt(null);
        }
        return names.containsKey(word) ? names.get(word) : Integer.valueOf(word);
    }

    private static void checkFiles(String text) {
        File[] files = new File("src/test/java").listFiles();
        Check.that("there are tests", files != null && files.length > 0);
        for (File file : files == null ? new File[0] : files) {
            String name = file.getName().replace(".java", "");
            Check.that("it names " + name, text.contains("`" + name + "`"));
        }
        Matcher named = Pattern.compile("`(\\w+Test)`").matcher(text);
        while (named.find()) {
            Check.that("there is " + named.group(1), new File("src/test/java/" + named.group(1) + ".java").isFile());
        }
        Check.that("it says how to run the tests", text.contains("\n    .ci/run\n"));
        Check.that(".ci/run can be run", new File(".ci/run").canExecute());
    }
}
