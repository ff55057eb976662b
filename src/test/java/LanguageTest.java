import java.io.IOException;
import java.nio.file.Files;
import java.nio.file.Path;
import java.util.ArrayDeque;
import java.util.Deque;
import java.util.regex.Matcher;
import java.util.regex.Pattern;

/** What the source's own text tells of the rules of LANGUAGE.md, beside what FaceTest asks by reflection. */
final class LanguageTest {

    private static final Path SOURCE = Path.of("src/main/java/SailorCandles.java");
    /** Rules 1, 2, 4, 6 and 13: what may stand nowhere in the program. */
    private static final String[] FORBIDDEN = {
        "\\bpackage\\b", "\\bfinally\\b", "\\bsynchronized\\b", "\\bassert\\b", "\\bvolatile\\b", "\\bnative\\b",
        "->", "::", "Exact\\(", "\\bgetMessage\\b", "\\bequals\\(Object", "\\bhashCode\\(", "\\btoString\\(\\)\\s*\\{",
        "\\bstatic\\s*\\{", "\\bSystem\\.(?!arraycopy\\()", "\\bThread\\b", "\\bRandom\\b", "\\brandom\\(",
        "\\bjava\\.(?!util\\.(ArrayList|List|Arrays|Iterator|NoSuchElementException)\\b)",
    };
    /** Rule 7 and the project's page: what the Java machine throws is never caught. */
    private static final Pattern MACHINES_CATCH = Pattern.compile("catch\\s*\\([^)]*\\b(ArrayIndexOutOfBounds"
        + "|NullPointer|ClassCast|NegativeArraySize|ArrayStore|IndexOutOfBounds|Arithmetic|Runtime)?"
        + "(Exception|Throwable|Error)\\b");
    private static final Pattern RIGHT_THROW = Pattern.compile("throw new (IllegalState|IllegalArgument"
        + "|IndexOutOfBounds|Arithmetic|UnsupportedOperation|NoSuchElement|Runtime)Exception\\((\"\")?\\);");
    private static final int MOST_LINES_OF_A_METHOD = 60;

    private LanguageTest() {
    }

    static void ruleNothingForbiddenStandsInTheSource() throws IOException {
        String code = codeOnly(Files.readString(SOURCE));
        for (String words : FORBIDDEN) {
            Check.no("there is " + words, Pattern.compile(words).matcher(code).find());
        }
        Check.no("an exception of the machine is caught", MACHINES_CATCH.matcher(code).find());
        Check.equal("one public class", 1, count("public (final )?class", code));
    }

    static void ruleThrowsAreWrittenOut() throws IOException {
        String code = codeOnly(Files.readString(SOURCE));
        Matcher right = RIGHT_THROW.matcher(code);
        int written = 0;
        while (right.find()) {
            written++;
        }
        Check.equal("each throw is one of rule 6", count("\\bthrow\\b", code), written);
        Check.yes("there are some", written > 0);
    }

    static void ruleSignsAreOneTo127() throws IOException {
        String text = Files.readString(SOURCE);
        for (int i = 0; i < text.length(); i++) {
            Check.yes("sign " + (int) text.charAt(i), text.charAt(i) >= 1 && text.charAt(i) <= 127);
        }
    }

    /** A block that is no class is at most a whole method. */
    static void ruleMethodsStayShort() throws IOException {
        String[] lines = codeOnly(Files.readString(SOURCE)).split("\n");
        Deque<Integer> opened = new ArrayDeque<>();
        for (int line = 0; line < lines.length; line++) {
            for (char sign : lines[line].toCharArray()) {
                if (sign == '{') {
                    opened.push(lines[line].contains("class ") ? -1 : line);
                } else if (sign == '}') {
                    int start = opened.pop();
                    int length = start < 0 ? 0 : line - start + 1;
                    Check.yes("line " + (start + 1) + ": " + length + " lines", length <= MOST_LINES_OF_A_METHOD);
                }
            }
        }
        Check.yes("each block is closed", opened.isEmpty());
    }

    private static int count(String words, String code) {
        Matcher matcher = Pattern.compile(words).matcher(code);
        int count = 0;
        while (matcher.find()) {
            count++;
        }
        return count;
    }

    /** Without comments and without what stands inside texts; lines stay lines. */
    private static String codeOnly(String source) {
        Matcher other = Pattern.compile("//[^\n]*|/\\*.*?\\*/|\"(\\\\.|[^\"\\\\\n])*\"", Pattern.DOTALL)
            .matcher(source);
        StringBuilder code = new StringBuilder();
        int from = 0;
        while (other.find()) {
            code.append(source, from, other.start());
            String found = other.group();
            code.append(found.charAt(0) == '"' ? "\"\"" : found.replaceAll("[^\n]", ""));
            from = other.end();
        }
        return code.append(source.substring(from)).toString();
    }
}
