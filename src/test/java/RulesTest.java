import java.io.IOException;
import java.nio.file.Files;
import java.nio.file.Path;
import java.util.regex.Matcher;
import java.util.regex.Pattern;

/** Rules of LANGUAGE.md that can be read from the text of the class. Run from the project's folder. */
public final class RulesTest {
    private static final Path SOURCE = Path.of("src/main/java/StratumCounts.java");
    private static final String[] RULED_OUT = {
        "package ", "finally", "synchronized", "assert", "->", "::", "Exact", "static \\{", "protected", "\\bhashCode\\b",
        "\\btoString\\b", "System\\.(?!arraycopy)", "\\bRandom\\b", "\\bThread\\b",
        "ArrayIndexOutOfBounds", "NullPointer", "ClassCast", "NegativeArraySize", "ArrayStore", "Throwable"};

    public static void main(String[] args) throws IOException {
        Expect e = new Expect("RulesTest");
        String source = Files.readString(SOURCE);
        String code = source.replaceAll("(?s)/\\*.*?\\*/", "").replaceAll("//[^\n]*", "");
        for (String word : RULED_OUT) {
            e.no("stands in the code: " + word, Pattern.compile(word).matcher(code).find());
        }
        Matcher imports = Pattern.compile("import ([^;]*);").matcher(code);
        while (imports.find()) {
            e.yes("may be imported: " + imports.group(1), imports.group(1).equals("java.util.Arrays"));
        }
        e.yes("twelve classes at most", Pattern.compile("\\bclass ").matcher(code).results().count() <= 12);
        for (char c : source.toCharArray()) {
            if (c > 126) {
                e.same("a character beyond ASCII", c, 0);
            }
        }
        methodsAreShort(e, source);
        everyLoopIsCounted(e, code);
        e.end();
    }

    /** Methods stand at one depth or two, so a method ends at the first closing brace of its own depth. */
    private static void methodsAreShort(Expect e, String source) {
        Matcher methods = Pattern.compile("(?m)^( {4}| {8})((?:public|private)[^=;{]*\\([^;{]*\\)) \\{\n(?s:.*?)\n\\1\\}")
            .matcher(source);
        int found = 0;
        while (methods.find()) {
            found++;
            e.yes("sixty lines at most: " + methods.group(2), methods.group().lines().count() <= 60);
            e.yes("seven parameters at most: " + methods.group(2), methods.group(2).split(",").length <= 7);
        }
        e.yes("methods were found", found > 20);
    }

    private static void everyLoopIsCounted(Expect e, String code) {
        Matcher loops = Pattern.compile("for \\(([^{]*)\\) \\{").matcher(code);
        while (loops.find()) {
            boolean counted = loops.group(1).matches(
                "int (\\w+) = [^;]*; \\1 (<|>=) [^;]*; \\1(\\+\\+|--)|\\w+ \\w+ : \\w+");
            e.yes("has a counter and a bound: " + loops.group(1), counted);
        }
    }
}
