import java.lang.reflect.Method;
import java.lang.reflect.Modifier;
import java.nio.file.Files;
import java.nio.file.Path;
import java.util.LinkedHashMap;
import java.util.Map;
import java.util.regex.Matcher;
import java.util.regex.Pattern;
import javax.tools.ToolProvider;

/** README.md: its example compiles and gives the answers that it tells, and no call is left out. */
public final class ReadmeTest {
    private static final Pattern EXAMPLE = Pattern.compile("```java\n(.*?)```", Pattern.DOTALL);
    private static final Pattern ANSWER =
            Pattern.compile("^\\w+ (\\w+) = .*; *// -> (true|false|-?\\d+)", Pattern.MULTILINE);

    public static void main(String[] args) throws Exception {
        String readme = Files.readString(Path.of("README.md"));
        everyCallIsNamed(readme);
        theExampleIsRight(readme);
        Due.end();
    }

    private static void everyCallIsNamed(String readme) {
        for (Method method : MajorityClock.class.getDeclaredMethods()) {
            if (Modifier.isPublic(method.getModifiers())) {
                Due.yes("README.md names " + method.getName(), readme.contains("`" + method.getName() + "`"));
            }
        }
    }

    private static void theExampleIsRight(String readme) throws Exception {
        Matcher example = EXAMPLE.matcher(readme);
        boolean there = example.find();
        Due.yes("README.md has an example", there);
        if (!there) {
            return;
        }
        Map<String, String> due = new LinkedHashMap<>();
        Matcher answer = ANSWER.matcher(example.group(1));
        while (answer.find()) {
            due.put(answer.group(1), answer.group(2));
        }
        Due.yes("the example tells answers", due.size() >= 10);
        Map<String, String> got = answersOf(example.group(1), due);
        for (String name : due.keySet()) {
            Due.same(name + " in README.md", "" + got.get(name), due.get(name));
        }
    }

    private static Map<String, String> answersOf(String code, Map<String, String> names) throws Exception {
        StringBuilder source = new StringBuilder("public class Example { ");
        source.append("public static void run(java.util.Map<String, String> answers) {\n").append(code);
        for (String name : names.keySet()) {
            source.append("answers.put(\"").append(name).append("\", \"\" + ").append(name).append(");\n");
        }
        source.append("} }\n");
        Path classes = Path.of(ReadmeTest.class.getProtectionDomain().getCodeSource().getLocation().toURI());
        Path file = classes.resolve("Example.java");
        Files.writeString(file, source);
        int refused = ToolProvider.getSystemJavaCompiler().run(null, null, null,
                "-cp", classes.toString(), "-d", classes.toString(), file.toString());
        Due.is("the compiler on the example", refused, 0);
        Map<String, String> answers = new LinkedHashMap<>();
        if (refused == 0) {
            Class.forName("Example").getMethod("run", Map.class).invoke(null, answers);
        }
        return answers;
    }
}
