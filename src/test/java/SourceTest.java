import java.io.IOException;
import java.nio.file.Files;
import java.nio.file.Path;
import java.util.List;
import java.util.regex.Matcher;
import java.util.regex.Pattern;

/** The rules of ../shared/LANGUAGE.md that the text of the program shows. */
public final class SourceTest {
    private static final Path FILE = Path.of("src/main/java/DarkVats.java");
    private static final String[] LEFT_OUT = {"->", "::", "\\bfinally\\b", "\\bsynchronized\\b", "\\bassert\\b",
        "\\btry\\s*\\(", "\\bpackage\\b", "\\bclass\\s+\\w+\\s+extends\\s+\\w*(Exception|Error)\\b", "\\bThread\\b",
        "\\bRandom\\b", "\\bnanoTime\\b", "\\bcurrentTimeMillis\\b", "\\bgetMessage\\b", "\\bvolatile\\b",
        "\\bimport\\s+(?!java\\.util\\.(ArrayList|List|Arrays|Iterator|NoSuchElementException)\\s*;)",
        "\\bcatch\\s*\\(\\s*(Throwable|Exception|Error|ArrayIndexOutOfBoundsException|NullPointerException"
            + "|ClassCastException|NegativeArraySizeException|ArrayStoreException)\\b",
        "\\bstatic\\s*\\{", "\\bstatic\\s+(?!final\\b)(int|long|boolean|char|String|byte|short|double|float)"
            + "(\\[\\])*\\s+\\w+\\s*[=;]"};

    public static void main(String[] args) throws IOException {
        String source = Files.readString(FILE);
        String code = withoutTexts(source);
        for (String pattern : LEFT_OUT) {
            Matcher matcher = Pattern.compile(pattern).matcher(code);
            Calls.check("the program has no " + pattern, matcher.find() ? 1 : 0, 0);
        }
        for (int i = 0; i < source.length(); i++) {
            Calls.check("sign " + i, source.charAt(i) < 128 ? 1 : 0, 1);
        }
        shortMethods(List.of(code.split("\n", -1)));
        Calls.end();
    }

    /** The program with blanks for its comments and written texts. */
    private static String withoutTexts(String source) {
        StringBuilder code = new StringBuilder();
        Matcher matcher = Pattern.compile("/\\*.*?\\*/|//[^\n]*|\"(\\\\.|[^\"\\\\\n])*\"|'(\\\\.|[^'\\\\\n])'",
            Pattern.DOTALL).matcher(source);
        int from = 0;
        while (matcher.find()) {
            code.append(source, from, matcher.start()).append(matcher.group().replaceAll("[^\n]", " "));
            from = matcher.end();
        }
        return code.append(source.substring(from)).toString();
    }

    /** Methods of some sixty lines (rule 11): from a line that opens one to the brace that closes it. */
    private static void shortMethods(List<String> lines) {
        Pattern opening = Pattern.compile("^(\\s++)(?!if|for|while|switch|else|do\\b|return|case)[\\w\\[\\]<> ]+\\([^;]*\\{$");
        int methods = 0;
        for (int i = 0; i < lines.size(); i++) {
            Matcher matcher = opening.matcher(lines.get(i));
            if (matcher.find()) {
                int end = i + 1;
                while (end < lines.size() && !lines.get(end).equals(matcher.group(1) + "}")) {
                    end++;
                }
                methods++;
                Calls.check("line " + (i + 1) + " opens a method of " + (end - i + 1) + " lines; short enough",
                    end - i + 1 <= 64 ? 1 : 0, 1);
            }
        }
        Calls.check("methods were found", methods > 29 ? 1 : 0, 1);
    }
}
