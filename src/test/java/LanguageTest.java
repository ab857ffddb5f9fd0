import java.io.IOException;
import java.nio.file.Files;
import java.nio.file.Path;
import java.util.List;
import java.util.regex.Matcher;
import java.util.regex.Pattern;

/** What of ../shared/LANGUAGE.md can be seen in the lines of the program. */
public final class LanguageTest {
    private static final List<String> FORBIDDEN = List.of("throw", "throws", "try", "catch", "finally", "synchronized",
        "assert", "->", "::", "import (?!java\\.util\\.Arrays;|java\\.util\\.ArrayList;|java\\.util\\.List;)", "Random",
        "Thread", "System\\.(?!arraycopy)", "Object\\b", "hashCode", "toString", "static (?!final|class)[\\w\\[\\]]+ \\w+ =",
        "protected", "native", "volatile", "HashMap", "Map\\b", "Exact\\b", "\\.class\\b", "getClass", "@", "package ",
        "MAX_VALUE", "MIN_VALUE", "var ", "\\.\\.\\.", "Stream", "Optional", "\"\\s*\\+", "\\+\\s*\"");
    private static final int MOST_LINES = 60, MOST_CLASSES = 12, MOST_PARAMETERS = 7, MOST_FIELDS = 20;

    private LanguageTest() {
    }

    public static void main(String[] args) throws IOException {
        String file = args.length > 0 ? args[0] : "src/main/java/MudLibrary.java";
        String text = Files.readString(Path.of(file));
        String code = text.replaceAll("(?s)/\\*.*?\\*/", "").replaceAll("//[^\n]*", "");
        for (String word : FORBIDDEN) {
            String bounds = Character.isLetter(word.charAt(0)) ? "\\b" + word : word;
            Matcher found = Pattern.compile(bounds + (word.matches("[a-z]+") ? "\\b" : "")).matcher(code);
            Check.isTrue(word + " does not stand in the program", !found.find());
        }
        Check.isTrue("signs are 1 to 127", text.chars().allMatch(c -> c > 0 && c < 128));
        methods(code);
        selfCalls(code);
        classes(code);
        face(code);
        Check.end("LanguageTest");
    }

    private static void methods(String code) {
        Matcher m = Pattern.compile("(?m)^( {4,8})(?:public |private |static )*[\\w\\[\\]]*? ?(\\w+)\\(([^)]*)\\) \\{$(?s)(.*?)^\\1\\}$")
            .matcher(code);
        int methods = 0;
        while (m.find()) {
            methods++;
            Check.isTrue(m.group(2) + " is short", m.group(4).lines().count() <= MOST_LINES);
            Check.isTrue(m.group(2) + " takes few parameters", m.group(3).split(",").length <= MOST_PARAMETERS);
        }
        Check.isTrue("methods are seen: " + methods, methods > 100);
    }

    /** LANGUAGE.md, 8: what calls itself is private and static; private methods of an object call one another. */
    private static void selfCalls(String code) {
        Matcher m = Pattern.compile("(?m)^( {4,8})((?:public |private |static )*)[\\w\\[\\]]+ (\\w+)\\([^)]*\\) \\{$(?s)(.*?)^\\1\\}$")
            .matcher(code);
        int selfCalling = 0;
        while (m.find()) {
            if (Pattern.compile("(?<![\\w.])" + m.group(3) + "\\(").matcher(m.group(4)).find()) {
                selfCalling++;
                Check.due(m.group(3) + " calls itself and is private and static", m.group(2).equals("private static ") ? 1 : 0, 1);
            }
        }
        Check.due("methods that call themselves", selfCalling, 2);
    }

    private static void classes(String code) {
        Matcher m = Pattern.compile("\\bclass (\\w+)").matcher(code);
        int classes = 0;
        while (m.find()) {
            classes++;
        }
        Check.isTrue("classes: " + classes, classes <= MOST_CLASSES);
        for (String part : code.split("\\bclass ")) {
            Matcher field = Pattern.compile("(?m)^ {4,8}private (?!static)[^(=;]*(=[^;]*)?;").matcher(part);
            int fields = 0;
            while (field.find()) {
                fields++;
            }
            Check.isTrue("fields of " + part.split("\\s")[0] + ": " + fields, fields <= MOST_FIELDS);
        }
    }

    /** No private method bears the name of a public one, and members of the class are public or private. */
    private static void face(String code) {
        Matcher m = Pattern.compile("(?m)^    public \\w+ (\\w+)\\(").matcher(code);
        int calls = 0;
        while (m.find()) {
            calls++;
            Matcher own = Pattern.compile("(?m)^ {4,8}(?!public|return|new)[\\w \\[\\]]+ " + m.group(1) + "\\([^)]*\\) \\{").matcher(code);
            Check.isTrue("no other method is named " + m.group(1), !own.find());
        }
        Check.due("public methods", calls, 34);
        Check.isTrue("members are public or private",
            code.lines().allMatch(line -> !line.matches("    \\w.*") || line.matches("    (public|private) .*")));
        Check.isTrue("classes inside are static",
            code.lines().allMatch(line -> !line.matches(" {4,}.*\\bclass \\w+.*") || line.contains("static")));
    }
}
