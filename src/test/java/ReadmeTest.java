import java.io.File;
import java.io.IOException;
import java.net.URL;
import java.net.URLClassLoader;
import java.nio.file.DirectoryStream;
import java.nio.file.Files;
import java.nio.file.Path;
import java.util.ArrayList;
import java.util.List;
import java.util.regex.Matcher;
import java.util.regex.Pattern;
import java.util.stream.Stream;
import javax.tools.JavaCompiler;
import javax.tools.ToolProvider;

/** What README.md says, tried as it stands there: its example, its commands, the files and classes that it names. */
public final class ReadmeTest {
    private static final Pattern EXAMPLE = Pattern.compile("```java\n(.*?)```", Pattern.DOTALL);
    /** A call whose answer the comment behind it begins with. */
    private static final Pattern ANSWERED = Pattern.compile("(x\\..*);\\s*// (-?\\d+)[:;,. ].*|(x\\..*);\\s*// (-?\\d+)");
    private static final Pattern NAMED = Pattern.compile("`(\\w+Test)`");
    private static final Pattern RUN = Pattern.compile("java -cp out (\\w+)");

    private ReadmeTest() {
    }

    public static void main(String[] args) throws Exception {
        String readme = Files.readString(Path.of("README.md"));
        example(readme);
        tests(readme);
        commands(readme);
        classes(readme);
        Kit.close();
    }

    private static void example(String readme) throws Exception {
        Matcher block = EXAMPLE.matcher(readme);
        Kit.due("README.md has an example", block.find(), true);
        StringBuilder body = new StringBuilder();
        List<String> calls = new ArrayList<>();
        List<Integer> due = new ArrayList<>();
        for (String line : block.group(1).split("\n")) {
            Matcher answered = ANSWERED.matcher(line);
            boolean has = answered.matches();
            String call = !has ? "" : answered.group(1) == null ? answered.group(3) : answered.group(1);
            if (has) {
                calls.add(call);
                due.add(Integer.parseInt(answered.group(2) == null ? answered.group(4) : answered.group(2)));
            }
            body.append(has ? "        answers.add(" + call + ");" : "        " + line).append('\n');
        }
        Kit.due("the example tells answers", due.size() >= 3, true);
        List<?> answers = run(body.toString());
        for (int i = 0; i < due.size(); i++) {
            Kit.due("README.md: " + calls.get(i), (Integer) answers.get(i), due.get(i));
        }
    }

    /** Compiles the lines as the body of a method, and answers what they have added to the answers. */
    private static List<?> run(String body) throws Exception {
        Path folder = Files.createTempDirectory("readme");
        try {
            Path file = folder.resolve("ReadmeExample.java");
            Files.writeString(file, "import java.util.*;\npublic final class ReadmeExample {\n"
                    + "    public static List<Integer> answers() {\n        List<Integer> answers = new ArrayList<>();\n"
                    + body + "        return answers;\n    }\n}\n");
            JavaCompiler compiler = ToolProvider.getSystemJavaCompiler();
            int failed = compiler.run(null, null, null, "-proc:none", "-cp", System.getProperty("java.class.path"), "-d",
                    folder.toString(), file.toString());
            Kit.due("the example compiles", failed, 0);
            try (URLClassLoader loader = new URLClassLoader(new URL[] {folder.toUri().toURL()})) {
                return (List<?>) loader.loadClass("ReadmeExample").getMethod("answers").invoke(null);
            }
        } finally {
            try (Stream<Path> files = Files.walk(folder)) {
                files.sorted((a, b) -> b.compareTo(a)).map(Path::toFile).forEach(File::delete);
            }
        }
    }

    private static void tests(String readme) throws IOException {
        Matcher named = NAMED.matcher(readme);
        while (named.find()) {
            Kit.due("there is " + named.group(1), Files.exists(Path.of("src/test/java", named.group(1) + ".java")), true);
        }
        try (DirectoryStream<Path> files = Files.newDirectoryStream(Path.of("src/test/java"), "*Test.java")) {
            for (Path file : files) {
                String name = file.getFileName().toString().replace(".java", "");
                Kit.due("README.md tells of " + name, readme.contains("`" + name + "`"), true);
            }
        }
    }

    private static void commands(String readme) {
        Kit.due("README.md tells of .ci/run", readme.contains("\n.ci/run\n"), true);
        Kit.due("there is .ci/run", Files.isExecutable(Path.of(".ci/run")), true);
        Matcher run = RUN.matcher(readme);
        while (run.find()) {
            Kit.due("there is " + run.group(1), Files.exists(Path.of("src/test/java", run.group(1) + ".java")), true);
        }
    }

    /** The table of classes names all that there are. */
    private static void classes(String readme) {
        for (Class<?> inside : ForgetBread.class.getDeclaredClasses()) {
            Kit.due("README.md tells of " + inside.getSimpleName(), readme.contains("`" + inside.getSimpleName() + "`"), true);
        }
    }
}
