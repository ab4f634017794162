import java.io.IOException;
import java.lang.reflect.Method;
import java.lang.reflect.Modifier;
import java.net.URL;
import java.net.URLClassLoader;
import java.nio.file.Files;
import java.nio.file.Path;
import java.util.ArrayList;
import java.util.List;
import java.util.regex.Matcher;
import java.util.regex.Pattern;
import javax.tools.ToolProvider;

/** The example of README.md is compiled as it stands; each call that tells its answer must give it. */
public final class ReadmeTest {
    private static final Path README = Path.of("README.md");
    private static final Path BUILD = Path.of("build/ci/readme-example");
    private static final Pattern ANSWERED = Pattern.compile(" {4}(world\\.\\w+\\(.*\\)); +// (-?\\d+|true|false): .*");

    private final Check check = new Check();
    private final List<String> example = new ArrayList<>();
    private final List<String> calls = new ArrayList<>();
    private final List<String> due = new ArrayList<>();

    public static void main(String[] args) throws Exception {
        ReadmeTest all = new ReadmeTest();
        all.read();
        all.everyMethodIsUsed();
        all.everyTestIsNamed();
        all.answersAreDue();
        all.check.end();
    }

    private void read() throws IOException {
        boolean isUse = false;
        for (String line : Files.readAllLines(README)) {
            if (line.startsWith("## ")) {
                isUse = line.equals("## Use");
            } else if (isUse && line.startsWith("    ")) {
                example.add(line);
            }
        }
    }

    private void everyMethodIsUsed() {
        check.part("the methods");
        String all = String.join("\n", example);
        for (Method method : Gliderwright.class.getDeclaredMethods()) {
            if (Modifier.isPublic(method.getModifiers())) {
                check.same(method.getName() + " is used", all.contains("world." + method.getName() + "("), true);
            }
        }
    }

    private void everyTestIsNamed() throws IOException {
        check.part("the tests");
        String readme = Files.readString(README);
        try (var files = Files.newDirectoryStream(Path.of("src/test/java"), "*Test.java")) {
            for (Path file : files) {
                check.same(file + " is named", readme.contains(file.getFileName().toString()), true);
            }
        }
    }

    private String source() {
        StringBuilder source = new StringBuilder("public final class ReadmeExample {\n"
                + "public static void put(java.util.List<Object> answers) {\n");
        for (String line : example) {
            Matcher answered = ANSWERED.matcher(line);
            if (answered.matches()) {
                calls.add(answered.group(1));
                due.add(answered.group(2));
                source.append("answers.add(").append(answered.group(1)).append(");\n");
            } else {
                source.append(line).append('\n');
            }
        }
        return source.append("}\n}\n").toString();
    }

    private void answersAreDue() throws Exception {
        check.part("the example");
        Files.createDirectories(BUILD);
        Path file = Files.writeString(BUILD.resolve("ReadmeExample.java"), source());
        int compiled = ToolProvider.getSystemJavaCompiler().run(null, null, null,
                "-cp", System.getProperty("java.class.path"), "-d", BUILD.toString(), file.toString());
        check.same("compiled", compiled, 0);
        if (compiled != 0) {
            return;
        }
        List<Object> answers = new ArrayList<>();
        try (URLClassLoader loader = new URLClassLoader(new URL[] {BUILD.toUri().toURL()})) {
            loader.loadClass("ReadmeExample").getMethod("put", List.class).invoke(null, answers);
        }
        check.same("how many answer", answers.size(), due.size());
        for (int at = 0; at < due.size() && at < answers.size(); at++) {
            check.same(calls.get(at), answers.get(at), due.get(at));
        }
    }
}
