import java.io.IOException;
import java.nio.file.Files;
import java.nio.file.Path;
import java.util.regex.Matcher;
import java.util.regex.Pattern;

/** Rules of LANGUAGE.md that can be seen in the text of the class; its path is the argument. */
public final class LanguageTest {
    private static final String[] FORBIDDEN = {
        "\\bimport\\b", "\\bpackage\\b", "->", "::", "\\bcatch\\b", "\\bfinally\\b", "\\bsynchronized\\b",
        "\\bassert\\b", "\\bvolatile\\b", "\\bwhile\\s*\\(", "\\bObject\\b", "\\bthis\\s*[,)]",
        "\\bstatic\\s*\\{", "(private|public|^)\\s+static\\s+(?!final)\\w+(\\[\\])?\\s+\\w+\\s*[=;]",
    };

    /** Each name with a great first letter and a dot behind it is a call of a library. */
    private static final String LIBRARY = "Math\\.(min|max|abs|floorMod)\\(";

    public static void main(String[] args) throws IOException {
        String path = args.length > 0 ? args[0] : "src/main/java/DroopBoard.java";
        String text = Files.readString(Path.of(path));
        for (int i = 0; i < text.length(); i++) {
            if (text.charAt(i) > 126) {
                Check.due("the character at " + i, text.charAt(i), '?');
            }
        }
        String code = text.replaceAll("(?s)/\\*.*?\\*/", "").replaceAll("//[^\\n]*", "");
        for (String forbidden : FORBIDDEN) {
            Matcher matcher = Pattern.compile(forbidden, Pattern.MULTILINE).matcher(code);
            Check.due("forbidden " + forbidden, matcher.find() ? matcher.group() : "", "");
        }
        Matcher call = Pattern.compile("\\b[A-Z][a-z]\\w*\\.\\w+\\(?").matcher(code);
        while (call.find()) {
            Check.due("the library's " + call.group(), call.group().matches(LIBRARY) ? 1 : 0, 1);
        }
        exceptions(code);
        methods(code);
        Check.end("LanguageTest");
    }

    private static void exceptions(String code) {
        Matcher thrown = Pattern.compile("throw\\b[^;]*;").matcher(code.replaceAll("throws[^{]*", ""));
        String form = "throw new (IndexOutOfBounds|IllegalArgument|IllegalState)Exception\\(\"[^\"]*\"\\);";
        while (thrown.find()) {
            Check.due(thrown.group(), thrown.group().matches(form) ? 1 : 0, 1);
        }
    }

    /** A method has at most sixty lines and seven parameters; here four are enough. */
    private static void methods(String code) {
        String body = "(?m)^( {4}| {8})(?!\\s)[^\\n;=]*\\(([^()]*)\\)[^;{}]*\\{\\n(.*?)^\\1\\}$";
        Matcher method = Pattern.compile("(?s)" + body).matcher(code);
        int methods = 0;
        while (method.find()) {
            methods++;
            Check.due("lines of " + method.group(), method.group(3).lines().count() <= 60 ? 1 : 0, 1);
            Check.due("parameters of " + method.group(), method.group(2).split(",").length <= 4 ? 1 : 0, 1);
        }
        Check.due("methods were found", methods >= 60 ? 1 : 0, 1);
    }
}
