import java.io.IOException;
import java.lang.reflect.Method;
import java.lang.reflect.Modifier;
import java.nio.file.Files;
import java.nio.file.Path;
import java.util.Set;
import java.util.TreeSet;
import java.util.regex.Matcher;
import java.util.regex.Pattern;

/** README.md's example answers what it says, and has every call of the face. Run from the project's folder. */
public final class ReadmeTest {
    private static final Pattern EXAMPLE = Pattern.compile("(?s)```java\n(.*?)```");
    private static final Pattern NEW = Pattern.compile("StratumCounts counts = new StratumCounts\\((-?\\d+)L\\);");
    private static final Pattern CALL =
        Pattern.compile("counts\\.((\\w+)\\([-\\d, ]*\\)); +// (true|false|-?\\d+)(: .*)?");

    public static void main(String[] args) throws IOException {
        Expect e = new Expect("ReadmeTest");
        Matcher example = EXAMPLE.matcher(Files.readString(Path.of("README.md")));
        e.yes("there is an example", example.find());
        e.same("calls that the example lacks", lacking(play(e, example.group(1))).size(), 0);
        e.end();
    }

    /** Makes the example's calls; answers their names. */
    private static Set<String> play(Expect e, String example) {
        Set<String> names = new TreeSet<>();
        Run run = null;
        for (String line : example.split("\n")) {
            Matcher made = NEW.matcher(line);
            Matcher call = CALL.matcher(line);
            if (made.matches()) {
                run = new Run(Long.parseLong(made.group(1)));
            } else if (call.matches() && run != null) {
                names.add(call.group(2));
                e.same(call.group(1), run.answer(call.group(1)), number(call.group(3)));
            } else {
                e.yes("can be read: " + line, line.isEmpty() || line.startsWith("// "));
            }
        }
        return names;
    }

    private static long number(String answer) {
        return switch (answer) {
            case "true" -> 1;
            case "false" -> 0;
            default -> Long.parseLong(answer);
        };
    }

    private static Set<String> lacking(Set<String> names) {
        Set<String> lacking = new TreeSet<>();
        for (Method method : StratumCounts.class.getDeclaredMethods()) {
            if (Modifier.isPublic(method.getModifiers()) && !names.contains(method.getName())) {
                System.out.println("ReadmeTest: not in the example: " + method.getName());
                lacking.add(method.getName());
            }
        }
        return lacking;
    }
}
