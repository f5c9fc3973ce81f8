import java.io.IOException;
import java.net.URL;
import java.net.URLClassLoader;
import java.nio.file.Files;
import java.nio.file.Path;
import java.util.ArrayList;
import java.util.Comparator;
import java.util.List;
import java.util.Set;
import java.util.TreeSet;
import java.util.regex.Matcher;
import java.util.regex.Pattern;
import java.util.stream.Stream;
import javax.tools.JavaCompiler;
import javax.tools.ToolProvider;

/** README.md as it stands: its examples answer what it says, and the classes and tests it names are those there are. */
public final class ReadmeTest {
    private static final Check CHECK = new Check();
    private static final Pattern ANSWERED = Pattern.compile("^(x\\.\\w+\\(.*\\));\\s+// (-?[0-9][0-9,]*): .*$");

    public static void main(String[] args) throws Exception {
        String readme = Files.readString(Path.of("README.md"));
        examples(readme);
        classes(readme);
        tests(readme);
        codes(readme);
        CHECK.finish();
    }

    private static void examples(String readme) throws Exception {
        List<String> calls = new ArrayList<>();
        List<Long> due = new ArrayList<>();
        StringBuilder body = new StringBuilder();
        Matcher block = Pattern.compile("```java\n(.*?)```", Pattern.DOTALL).matcher(readme);
        while (block.find()) {
            for (String line : block.group(1).split("\n")) {
                Matcher answered = ANSWERED.matcher(line);
                if (answered.matches()) {
                    body.append("got[").append(calls.size()).append("] = ").append(answered.group(1)).append(";\n");
                    calls.add(answered.group(1));
                    due.add(Long.parseLong(answered.group(2).replace(",", "")));
                } else {
                    CHECK.holds("no answer is told of " + line, !line.startsWith("x."));
                    body.append(line).append('\n');
                }
            }
        }
        CHECK.holds("the examples have answers", calls.size() > 10);
        long[] got = answers(body.toString(), calls.size());
        for (int i = 0; i < got.length; i++) {
            CHECK.due("README.md: " + calls.get(i), got[i], due.get(i));
        }
    }

    private static long[] answers(String body, int many) throws Exception {
        Path directory = Files.createTempDirectory("readme");
        try {
            Path file = directory.resolve("ReadmeExample.java");
            Files.writeString(file, "public final class ReadmeExample {\npublic static long[] answers() {\n"
                + "long[] got = new long[" + many + "];\n" + body + "return got;\n}\n}\n");
            JavaCompiler compiler = ToolProvider.getSystemJavaCompiler();
            int exit = compiler.run(null, null, null, "-cp", System.getProperty("java.class.path"),
                "-d", directory.toString(), file.toString());
            CHECK.due("javac of README.md's examples", exit, 0);
            if (exit != 0) {
                return new long[0];
            }
            try (URLClassLoader loader = new URLClassLoader(new URL[] {directory.toUri().toURL()})) {
                return (long[]) loader.loadClass("ReadmeExample").getMethod("answers").invoke(null);
            }
        } finally {
            remove(directory);
        }
    }

    private static void remove(Path directory) throws IOException {
        try (Stream<Path> inside = Files.walk(directory)) {
            for (Path path : inside.sorted(Comparator.reverseOrder()).toList()) {
                Files.delete(path);
            }
        }
    }

    private static void classes(String readme) {
        Set<String> told = found(readme, "(?m)^\\| `(\\w+)` +\\|");
        Set<String> inside = new TreeSet<>();
        for (Class<?> each : RoadShut.class.getDeclaredClasses()) {
            inside.add(each.getSimpleName());
        }
        CHECK.holds("README.md tells of " + told + ", there are " + inside, told.equals(inside));
    }

    private static void tests(String readme) throws IOException {
        Set<String> told = found(readme, "`(\\w+Test)`");
        Set<String> there = new TreeSet<>();
        try (Stream<Path> files = Files.list(Path.of("src/test/java"))) {
            for (Path file : files.toList()) {
                String name = file.getFileName().toString();
                if (name.endsWith("Test.java")) {
                    there.add(name.substring(0, name.length() - ".java".length()));
                }
            }
        }
        CHECK.holds("README.md tells of " + told + ", there are " + there, told.equals(there));
        CHECK.holds("the script is there and can be run", Files.isExecutable(Path.of(".ci/run")));
    }

    /** Each code of the document is told. */
    private static void codes(String readme) throws IOException {
        String shared = System.getenv("SHARED");
        String document = Files.readString(Path.of(shared == null ? "../shared" : shared, "DOC.md"));
        for (String code : found(document, "(-[0-9](?:,[0-9]{3})*)[,:. ]")) {
            CHECK.holds("README.md tells of " + code, readme.contains(code));
        }
    }

    private static Set<String> found(String text, String pattern) {
        Set<String> answer = new TreeSet<>();
        Matcher matcher = Pattern.compile(pattern).matcher(text);
        while (matcher.find()) {
            answer.add(matcher.group(1));
        }
        return answer;
    }
}
