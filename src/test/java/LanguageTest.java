import java.io.IOException;
import java.nio.file.Files;
import java.nio.file.Path;
import java.util.regex.Matcher;
import java.util.regex.Pattern;

/**
 * The rules of LANGUAGE.md that can be seen in the text of the program: no full check, but one
 * that tells early of what would be sent back. It is run from the folder of the project.
 */
public final class LanguageTest {
    private static final String[] BARRED = {
        "->", "::", "\\btry\\b", "\\bcatch\\b", "\\bfinally\\b", "\\bsynchronized\\b", "\\bassert\\b",
        "\\binstanceof\\b", "\\bprotected\\b", "\\bpackage\\b", "\\bSystem\\.(?!arraycopy)", "\\bThread\\b",
        "\\bObjects?\\b", "\\bvar\\b", "\\bequals\\(", "\\bhashCode\\b", "\\btoString\\b", "\\bMath\\.\\w+Exact",
        "\\bMath\\.random", "\\bArrays\\.(?!copyOf|copyOfRange|fill)", "static\\s*\\{", "\"\\s*\\+", "\\+\\s*\"",
        "\\bHashMap\\b", "\\bHashSet\\b", "\\bCollections\\b", "\\bStream\\b", "\\bOptional\\b",
        "java\\.(?!util\\.ArrayList;)",
    };
    private static final String THROWN = "Illegal(State|Argument)Exception|IndexOutOfBoundsException"
            + "|ArithmeticException|UnsupportedOperationException|NoSuchElementException|RuntimeException";
    private static final int MOST_LINES = 60;

    public static void main(String[] args) throws IOException {
        String source = Files.readString(Path.of("src/main/java/InkHall.java"));
        String code = source.replaceAll("(?s)/\\*.*?\\*/", "").replaceAll("//[^\n]*", "");
        Check.that("all signs are plain ones", source.chars().allMatch(sign -> sign < 127));
        for (String barred : BARRED) {
            Check.that("the program has " + barred, !Pattern.compile(barred).matcher(code).find());
        }
        checkThrows(code);
        checkStatics(code);
        checkMethods(code);
        Check.end("LanguageTest");
    }

    private static void checkThrows(String code) {
        Matcher thrown = Pattern.compile("\\bthrow\\b[^;]*;").matcher(code);
        while (thrown.find()) {
            String text = thrown.group();
            Check.that(text, text.matches("throw new (" + THROWN + ")\\((\"[ -~]*\")?\\);"));
        }
    }

    private static void checkStatics(String code) {
        Matcher field = Pattern.compile("(?m)^\\s+[a-z ]*\\bstatic\\b[^({]*[;=]").matcher(code);
        while (field.find()) {
            Check.that("a static field is no constant: " + field.group(), field.group().contains(" final "));
        }
    }

    /** A method is what stands between its head and the brace that is as far to the right. */
    private static void checkMethods(String code) {
        Matcher method = Pattern.compile("(?ms)^( +)(?!(?:if|for|while|return|throw|else)\\b)[\\w<>\\[\\] ]+"
                + "\\(([^)]*)\\)[^;{}]*\\{$(.*?)^\\1\\}").matcher(code);
        int count = 0;
        while (method.find()) {
            count++;
            Check.that("a method is long: " + method.group(), method.group(3).split("\n").length <= MOST_LINES);
            Check.that("a method has many parameters: " + method.group(),
                    method.group(2).split(",").length <= 7);
        }
        Check.that("methods were found", count > 40);
    }
}
