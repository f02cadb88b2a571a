import java.lang.reflect.Method;
import java.lang.reflect.Modifier;
import java.nio.file.Files;
import java.nio.file.Path;
import java.util.regex.Matcher;
import java.util.regex.Pattern;

/** README.md: its example answers as it says, and it names every call of the face and every test. */
public final class ReadmeTest {
    private static final Pattern FED = Pattern.compile("feed\\(pass, \"(.*)\"\\);");
    private static final Pattern CALL = Pattern.compile("pass\\.(\\w+\\(.*\\)); *// *(-?\\w+)(:.*)?");

    public static void main(String[] args) throws Exception {
        String readme = Files.readString(Path.of("README.md"));
        example(readme);
        allCalls(readme);
        allTests(readme);
        Probe.end("ReadmeTest");
    }

    private static void example(String readme) {
        StringBuilder run = new StringBuilder();
        int calls = 0;
        int length = 0;
        for (String line : readme.substring(readme.indexOf("### An example")).split("\n")) {
            Matcher fed = FED.matcher(line);
            Matcher call = CALL.matcher(line);
            if (fed.matches()) {
                length += fed.group(1).length();
                run.append("feed ").append(fed.group(1)).append(" -> ").append(length).append('\n');
            } else if (call.matches()) {
                length = 0;
                calls++;
                run.append(call.group(1)).append(" -> ").append(answer(call.group(2))).append('\n');
            }
        }
        Script.run("README.md", run.toString());
        Probe.same("calls in the example", calls, 20);
    }

    private static String answer(String word) {
        return word.equals("true") ? "yes" : word.equals("false") ? "no" : word;
    }

    private static void allCalls(String readme) {
        String table = readme.substring(readme.indexOf("### All calls"), readme.indexOf("## How it is built"));
        for (Method method : BeardPass.class.getDeclaredMethods()) {
            if (Modifier.isPublic(method.getModifiers())) {
                Probe.same("README.md names " + method.getName(), table.contains("`" + method.getName() + "`"), true);
            }
        }
    }

    private static void allTests(String readme) throws Exception {
        try (var files = Files.list(Path.of("src/test/java"))) {
            for (Path file : files.toList()) {
                String name = file.getFileName().toString().replace(".java", "");
                Probe.same("README.md names " + name, readme.contains("`" + name + "`"), true);
            }
        }
    }
}
