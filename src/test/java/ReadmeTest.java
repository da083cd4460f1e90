import java.io.IOException;
import java.io.UncheckedIOException;
import java.net.URL;
import java.net.URLClassLoader;
import java.nio.file.Files;
import java.nio.file.Path;
import java.util.ArrayList;
import java.util.Comparator;
import java.util.List;
import java.util.regex.Matcher;
import java.util.regex.Pattern;
import java.util.stream.Stream;
import javax.tools.ToolProvider;

/** The code in README.md compiles, and answers what its comments say. */
public final class ReadmeTest {
    private static final Pattern BLOCK = Pattern.compile("```java\n(.*?)```", Pattern.DOTALL);
    private static final Pattern ANSWER = Pattern.compile("^(yard\\..*\\));\\s*// (-?\\d+): .*$");
    private static final Pattern CALL = Pattern.compile("`(\\w+)`");

    public static void main(String[] args) throws Exception {
        String readme = Files.readString(Path.of("README.md"));
        List<String> blocks = new ArrayList<>();
        Matcher block = BLOCK.matcher(readme);
        while (block.find()) {
            blocks.add(block.group(1));
        }
        Due.due("blocks of code", blocks.size(), 2);
        if (blocks.size() == 2) {
            run("public final class ReadmeRun {\n" + blocks.get(0) + "public static void run() {\n" + asked(blocks.get(1))
                + "}\nstatic void due(String call, int got, int want) { if (got != want) {"
                + " throw new IllegalStateException(call + \" answered \" + got + \", README.md says \" + want); } }\n}\n");
        }
        calls(readme);
        Due.close("ReadmeTest");
    }

    /** Each line with an answer behind it becomes a check of that answer. */
    private static String asked(String block) {
        StringBuilder lines = new StringBuilder();
        int answers = 0;
        for (String line : block.split("\n")) {
            Matcher answer = ANSWER.matcher(line);
            boolean isAsked = answer.matches();
            Due.holds("an answer is told in a form that is asked: " + line, isAsked || !line.contains("//"));
            answers += isAsked ? 1 : 0;
            lines.append(isAsked
                ? "due(\"" + answer.group(1) + "\", " + answer.group(1) + ", " + answer.group(2) + ");" : line).append('\n');
        }
        Due.holds("answers in README.md: " + answers, answers >= 10);
        return lines.toString();
    }

    private static void run(String source) throws Exception {
        Path work = Files.createTempDirectory("readme");
        try {
            Path file = Files.writeString(work.resolve("ReadmeRun.java"), source);
            String path = System.getProperty("java.class.path");
            int compiled = ToolProvider.getSystemJavaCompiler().run(null, null, null, "--release", "17", "-cp", path, "-d",
                work.toString(), file.toString());
            Due.due("javac of the code in README.md", compiled, 0);
            if (compiled == 0) {
                try (URLClassLoader loader = new URLClassLoader(new URL[] {work.toUri().toURL()})) {
                    loader.loadClass("ReadmeRun").getMethod("run").invoke(null);
                }
            }
        } finally {
            remove(work);
        }
    }

    private static void remove(Path work) throws IOException {
        try (Stream<Path> all = Files.walk(work)) {
            all.sorted(Comparator.reverseOrder()).forEach(path -> {
                try {
                    Files.delete(path);
                } catch (IOException kept) {
                    throw new UncheckedIOException(kept);
                }
            });
        }
    }

    /** The table names every call of the face. */
    private static void calls(String readme) {
        List<String> named = new ArrayList<>();
        for (String line : readme.split("\n")) {
            Matcher call = CALL.matcher(line);
            while (line.startsWith("|") && call.find()) {
                named.add(call.group(1));
            }
        }
        for (java.lang.reflect.Method method : ConkerYard.class.getDeclaredMethods()) {
            boolean isPublic = java.lang.reflect.Modifier.isPublic(method.getModifiers());
            Due.holds("README.md names " + method.getName(), !isPublic || named.contains(method.getName()));
        }
    }
}
