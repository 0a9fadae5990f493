import java.io.IOException;
import java.nio.file.Files;
import java.nio.file.Path;
import java.util.List;
import java.util.regex.Matcher;
import java.util.regex.Pattern;

/** Rules of LANGUAGE.md as far as the source's text shows them; run from the project's directory. */
public final class SourceTest {
    private static final Check CHECK = new Check();
    private static final Path SOURCE = Path.of("src/main/java/FormRoom.java");

    public static void main(String[] args) throws IOException {
        String text = Files.readString(SOURCE);
        signs(text);
        String code = withoutTexts(text);
        words(code);
        library(code);
        methods(code);
        CHECK.end();
    }

    private static void signs(String text) {
        for (int i = 0; i < text.length(); i++) {
            if (text.charAt(i) > 126) {
                CHECK.holds("sign " + (int) text.charAt(i) + " at " + i, false);
            }
        }
    }

    /** The code alone: comments, texts and signs in quotes are emptied, line ends are kept. */
    private static String withoutTexts(String text) {
        Pattern quiet = Pattern.compile("//[^\\n]*|/\\*.*?\\*/|\"(\\\\.|[^\"\\\\])*\"|'(\\\\.|[^'\\\\])+'", Pattern.DOTALL);
        Matcher matcher = quiet.matcher(text);
        return matcher.replaceAll(found -> found.group().replaceAll("[^\\n]", " "));
    }

    private static void words(String code) {
        for (String word : List.of("throw", "throws", "try", "catch", "finally", "synchronized", "assert", "volatile",
                "native", "package", "protected", "var", "Exact", "equals", "hashCode", "toString", "Object", "Thread",
                "Random", "System\\.(?!arraycopy)\\w+", "Math\\.random", "double", "float", "while", "do")) {
            CHECK.holds("no " + word, !Pattern.compile("\\b" + word + "\\b").matcher(code).find());
        }
        for (String sign : List.of("->", "::", "@", "% 0", "/ 0")) {
            CHECK.holds("no " + sign, !code.contains(sign));
        }
        CHECK.holds("no static block", !Pattern.compile("static\\s*\\{").matcher(code).find());
    }

    private static void library(String code) {
        Matcher imports = Pattern.compile("import\\s+([^;]+);").matcher(code);
        while (imports.find()) {
            CHECK.holds("import " + imports.group(1), imports.group(1).equals("java.util.Arrays"));
        }
        Matcher calls = Pattern.compile("\\b(Math|Integer|Long|Arrays|System)\\.(\\w+)\\b").matcher(code);
        List<String> fine = List.of("Math.max", "Math.min", "Math.abs", "Integer.compare", "Integer.bitCount",
                "Arrays.copyOf", "Arrays.fill", "System.arraycopy");
        while (calls.find()) {
            CHECK.holds(calls.group(), fine.contains(calls.group()));
        }
    }

    /** Rule 11: methods of some sixty lines at most. Rule 12: nothing is made but in fields and constructors. */
    private static void methods(String code) {
        Matcher heads = Pattern.compile("\\n( +)(?:\\w+ )*[\\w\\[\\]]+ ?\\w+\\([^()]*\\) \\{\\n(.*?)\\n\\1\\}", Pattern.DOTALL)
                .matcher(code);
        int methods = 0;
        while (heads.find()) {
            methods++;
            int lines = heads.group().split("\n").length;
            String head = heads.group().strip().split("\n")[0];
            CHECK.holds(head + " has " + lines + " lines", lines <= 60);
            boolean constructor = head.matches("(public )?(FormRoom|Sea|Habit)\\(.*");
            CHECK.holds(head + " makes nothing", constructor || !heads.group().contains("new "));
        }
        CHECK.holds("methods are found", methods > 80);
    }
}
