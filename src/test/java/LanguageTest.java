import java.io.IOException;
import java.nio.file.Files;
import java.nio.file.Path;
import java.util.regex.Matcher;
import java.util.regex.Pattern;

/** Rules of LANGUAGE.md that can be seen in the text of the class; its path is the argument. */
public final class LanguageTest {
    /** What rules 1, 2, 5, 6 and 13 leave out. */
    private static final String[] FORBIDDEN = {
        "^\\s*package\\b", "::", "[(,=]\\s*\\w+\\s*->", "\\)\\s*->", "\\bfinally\\b", "\\bsynchronized\\b",
        "\\bassert\\b", "\\bvolatile\\b", "\\bObject\\b", "\\bgetMessage\\b", "\\bstatic\\s*\\{", "Exact\\(",
        "(private|public|^)\\s+static\\s+(?!final)\\w+(\\[\\])?\\s+\\w+\\s*[=;]",
        "static\\s+final\\s+\\w+(\\[\\])?\\s+\\w+\\s*=\\s*new\\b",
    };

    private static final String IMPORTS = "java\\.util\\.(ArrayList|List|Arrays|Iterator|NoSuchElementException)";

    /** Rule 4, and the names that the class gives to its own classes. */
    private static final String LIBRARY = "(Math|Integer|Long)\\.\\w+\\(?|System\\.arraycopy\\("
        + "|Arrays\\.(copyOf|copyOfRange|fill)\\(|List\\.of\\(";

    private static final String EXCEPTION = "(IllegalState|IllegalArgument|IndexOutOfBounds|Arithmetic"
        + "|UnsupportedOperation|NoSuchElement|Runtime)Exception";

    public static void main(String[] args) throws IOException {
        String path = args.length > 0 ? args[0] : "src/main/java/DroopBoard.java";
        String text = Files.readString(Path.of(path));
        for (int i = 0; i < text.length(); i++) {
            if (text.charAt(i) > 126) {
                Check.due("the character at " + i, text.charAt(i), '?');
            }
        }
        String code = text.replaceAll("(?s)/\\*.*?\\*/", "").replaceAll("//[^\\n]*", "");
        for (String forbidden : FORBIDDEN) {
            Matcher matcher = Pattern.compile(forbidden, Pattern.MULTILINE).matcher(code);
            Check.due("forbidden " + forbidden, matcher.find() ? matcher.group() : "", "");
        }
        dueEach(code, "\\bimport\\s+([^;]*);", IMPORTS);
        dueEach(code.replaceAll("\\bimport\\b[^;]*;", ""), "\\b([A-Z][a-z]\\w*\\.\\w+\\(?)", LIBRARY + ownNames(code));
        dueEach(code.replaceAll("throws[^{;]*", ""), "\\bthrow\\b([^;]*);", " new " + EXCEPTION + "\\((\"[^\"]*\")?\\)");
        dueEach(code, "\\bcatch\\s*\\(([^)]*)\\)", "(final )?" + EXCEPTION + "( \\| " + EXCEPTION + ")* \\w+");
        classes(code);
        methods(code);
        Check.end("LanguageTest");
    }

    /** The group of each place that is found has the form. */
    private static void dueEach(String code, String place, String form) {
        Matcher matcher = Pattern.compile(place).matcher(code);
        while (matcher.find()) {
            Check.due(matcher.group(1), matcher.group(1).matches(form) ? 1 : 0, 1);
        }
    }

    private static String ownNames(String code) {
        StringBuilder names = new StringBuilder();
        Matcher declared = Pattern.compile("\\b(class|enum|record|interface)\\s+(\\w+)").matcher(code);
        while (declared.find()) {
            names.append("|").append(declared.group(2)).append("\\.\\w+\\(?");
        }
        return names.toString();
    }

    /** Rule 11: the file has at most some twelve classes. */
    private static void classes(String code) {
        int classes = 0;
        Matcher declared = Pattern.compile("\\b(class|enum|record|interface)\\s+\\w+").matcher(code);
        while (declared.find()) {
            classes++;
        }
        Check.due("twelve classes at most, not " + classes, classes <= 12 ? 1 : 0, 1);
    }

    /** Rule 11: a method has at most sixty lines and seven parameters. */
    private static void methods(String code) {
        String body = "(?m)^( {4}| {8})(?!\\s)[^\\n;=]*\\(([^()]*)\\)[^;{}]*\\{\\n(.*?)^\\1\\}$";
        Matcher method = Pattern.compile("(?s)" + body).matcher(code);
        int methods = 0;
        while (method.find()) {
            methods++;
            Check.due("lines of " + method.group(), method.group(3).lines().count() <= 60 ? 1 : 0, 1);
            Check.due("parameters of " + method.group(), method.group(2).split(",").length <= 7 ? 1 : 0, 1);
        }
        Check.due("the methods of the face were found", methods >= 28 ? 1 : 0, 1);
    }
}
