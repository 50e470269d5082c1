import java.io.IOException;
import java.net.URL;
import java.net.URLClassLoader;
import java.nio.file.Files;
import java.nio.file.Path;
import java.util.ArrayList;
import java.util.Comparator;
import java.util.List;
import java.util.regex.Matcher;
import java.util.regex.Pattern;
import java.util.stream.Stream;
import javax.tools.ToolProvider;

/** The calls of README.md, one after the other, must answer what stands behind them there. */
public final class ReadmeTest {
    private static final Pattern BLOCK = Pattern.compile("```java\\n(.*?)```", Pattern.DOTALL);
    private static final Pattern CALL = Pattern.compile("^((?:x\\.\\w+|tell)\\(.*\\)); +// (-?\\d+|true|false)(:.*)?$");

    private ReadmeTest() {
    }

    public static void main(String[] args) throws IOException, ReflectiveOperationException {
        String program = program(Files.readString(Path.of("README.md")));
        Path folder = Files.createTempDirectory("readme");
        try {
            run(program, folder);
        } finally {
            remove(folder);
        }
        Check.finish();
    }

    /** One class of all blocks: functions as they stand, and a main method that makes the calls. */
    private static String program(String readme) {
        StringBuilder functions = new StringBuilder();
        StringBuilder lines = new StringBuilder();
        int calls = 0;
        Matcher block = BLOCK.matcher(readme);
        while (block.find()) {
            if (block.group(1).startsWith("static ")) {
                functions.append(block.group(1));
                continue;
            }
            for (String line : block.group(1).split("\n")) {
                Matcher call = CALL.matcher(line);
                boolean answered = call.matches();
                boolean made = line.startsWith("BillTender x = ");
                Check.due("a line with its answer: " + line, answered || made, true);
                calls += answered ? 1 : 0;
                lines.append(answered ? due(call.group(1), call.group(2)) : line).append('\n');
            }
        }
        Check.due("README.md has calls", calls > 50, true);
        return "public final class Readme {\n" + functions + "public static void calls(java.util.List<String> answers) {\n" + lines + "}\n}\n";
    }

    // Three texts a call: it, what it answered, what is due.
    private static String due(String call, String answer) {
        return "answers.add(\"" + call.replace("\"", "'") + "\"); answers.add(\"\" + " + call + "); answers.add(\"" + answer + "\");";
    }

    private static void run(String program, Path folder) throws IOException, ReflectiveOperationException {
        Path source = folder.resolve("Readme.java");
        Files.writeString(source, program);
        int compiled = ToolProvider.getSystemJavaCompiler().run(null, null, null, "--release", "17", "-proc:none",
            "-cp", System.getProperty("java.class.path"), "-d", folder.toString(), source.toString());
        Check.due("the calls of README.md compile", compiled, 0);
        if (compiled != 0) {
            return;
        }
        List<String> answers = new ArrayList<>();
        try (URLClassLoader loader = new URLClassLoader(new URL[] {folder.toUri().toURL()})) {
            loader.loadClass("Readme").getMethod("calls", List.class).invoke(null, answers);
        }
        for (int i = 0; i + 2 < answers.size(); i += 3) {
            Check.due("README.md: " + answers.get(i), answers.get(i + 1), answers.get(i + 2));
        }
    }

    private static void remove(Path folder) throws IOException {
        List<Path> all;
        try (Stream<Path> inside = Files.walk(folder)) {
            all = inside.sorted(Comparator.reverseOrder()).toList();
        }
        for (Path path : all) {
            Files.delete(path);
        }
    }
}
