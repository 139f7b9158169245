import java.io.IOException;
import java.nio.file.Files;
import java.nio.file.Path;
import java.util.List;
import java.util.regex.Matcher;
import java.util.regex.Pattern;

/** What of ../shared/LANGUAGE.md can be seen in the text of the program, line by line. */
final class LanguageTest {
    private static final String[] FORBIDDEN = {
        "->", "::", "\\btry\\b", "\\bcatch\\b", "\\bfinally\\b", "\\bassert\\b", "\\bsynchronized\\b", "\\bpackage\\b",
        "\\bprotected\\b", "\\bvar\\b", "\\binstanceof\\b", "\\bSystem\\.(?!arraycopy)", "\\bDouble\\.", "\\bThread\\b",
        "Exact\\(", "\\bimport (?!java\\.util\\.Arrays;)", "\\[\\]\\[\\]\\[\\]", "\"\\s*\\+", "\\+\\s*\"", "\\.clone\\(",
        "\\bObject\\b", "\\bhashCode\\b", "\\btoString\\b", "\\bequals\\b", "new (?!\\w+(\\(|\\[))",
    };

    private LanguageTest() {
    }

    public static void main(String[] arguments) throws IOException {
        Path path = Path.of("src/main/java/StampHostels.java");
        Script.due("the program has signs 1 to 127 alone", Files.readString(path).matches("(?s)[\\x01-\\x7f]*"), true);
        String text = Files.readString(path).replaceAll("(?s)/\\*.*?\\*/", "").replaceAll("//[^\n]*", "");
        for (String one : FORBIDDEN) {
            Matcher matcher = Pattern.compile(one).matcher(text);
            Script.due("the program has " + one, matcher.find() ? matcher.group() : "nothing", "nothing");
        }
        staticFields(text);
        exceptions(text);
        methods(List.of(text.split("\n")));
        Script.end();
    }

    private static void staticFields(String text) {
        Matcher matcher = Pattern.compile("(?m)^.*\\bstatic\\b[^({=;\n]*[=;]").matcher(text);
        while (matcher.find()) {
            Script.due(matcher.group().trim() + " is final and of a plain type",
                    matcher.group().matches("\\s*(public|private) static final (int|long|boolean|char|String)(\\[\\])? [A-Z_]+ ="),
                    true);
        }
    }

    private static void exceptions(String text) {
        Matcher matcher = Pattern.compile("\\bthrow\\b[^;]*;").matcher(text);
        while (matcher.find()) {
            Script.due(matcher.group() + " is written out", matcher.group().matches(
                    "throw new (IllegalArgument|IllegalState|IndexOutOfBounds)Exception\\(\"[^\"]*\"\\);"), true);
        }
    }

    /** A method begins and ends at the same depth of its line; none is longer than 60 lines or takes more than seven. */
    private static void methods(List<String> lines) {
        Pattern head = Pattern.compile("^( {4}| {8})(?=\\w)(?!.*\\b(class|new)\\b)[^=;]*\\(.*");
        for (int i = 0; i < lines.size(); i++) {
            Matcher matcher = head.matcher(lines.get(i));
            if (!matcher.matches() || lines.get(i).matches("\\s*(return|if|for|while|switch|throw)\\b.*")) {
                continue;
            }
            int end = i;
            while (end < lines.size() && !lines.get(end).startsWith(matcher.group(1) + "}")) {
                end++;
            }
            Script.due("the method of line " + (i + 1) + " is short", end - i < 60, true);
            Script.due("the method of line " + (i + 1) + " takes few",
                    lines.get(i).split("\\)", 2)[0].split(",").length <= 7, true);
        }
    }
}
