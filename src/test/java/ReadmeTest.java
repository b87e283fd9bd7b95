import java.net.URL;
import java.net.URLClassLoader;
import java.nio.file.Files;
import java.nio.file.Path;
import java.util.ArrayList;
import java.util.List;
import java.util.regex.Matcher;
import java.util.regex.Pattern;
import javax.tools.ToolProvider;

/** The example of README.md compiles, and its calls answer what the comments behind them say. */
class ReadmeTest extends Checks {
    private static final Pattern ANSWERED = Pattern.compile("(plate\\.\\w+\\(.*\\));\\s+// (-?\\d+|NONE)\\b.*");

    public static void main(String[] args) throws Exception {
        tell("README.md");
        List<String> calls = new ArrayList<>();
        List<Long> wanted = new ArrayList<>();
        StringBuilder body = new StringBuilder();
        for (String line : example()) {
            Matcher answered = ANSWERED.matcher(line);
            if (answered.matches()) {
                calls.add(answered.group(1));
                wanted.add(answered.group(2).equals("NONE") ? NONE : Long.parseLong(answered.group(2)));
                body.append("told[").append(calls.size() - 1).append("] = ").append(answered.group(1)).append(";\n");
            } else {
                body.append(line).append('\n');
            }
        }
        due(1, calls.isEmpty() ? 0 : 1, "looking for calls with answers");
        long[] told = play(body.toString(), calls.size());
        for (int i = 0; i < calls.size(); i++) {
            due(wanted.get(i), told[i], calls.get(i));
        }
        end();
    }

    /** The lines of the first block of Java in README.md. */
    private static List<String> example() throws Exception {
        List<String> lines = Files.readAllLines(Path.of("README.md"));
        int start = lines.indexOf("```java") + 1;
        List<String> rest = lines.subList(start, lines.size());
        return rest.subList(0, Math.max(0, rest.indexOf("```")));
    }

    /** Compiles the example with its calls' answers put into a row, and answers the row. */
    private static long[] play(String body, int calls) throws Exception {
        Path made = Files.createTempDirectory("readme");
        Path source = made.resolve("ReadmeExample.java");
        Files.writeString(source, "public class ReadmeExample { public static void play(long[] told) {\n" + body + "} }\n");
        long[] told = new long[calls];
        int failed = ToolProvider.getSystemJavaCompiler().run(null, null, null,
            "-cp", System.getProperty("java.class.path"), "-d", made.toString(), source.toString());
        due(0, failed, "compiling the example");
        if (failed == 0) {
            try (URLClassLoader loader = new URLClassLoader(new URL[] {made.toUri().toURL()})) {
                loader.loadClass("ReadmeExample").getMethod("play", long[].class).invoke(null, (Object) told);
            }
        }
        for (String name : new String[] {"ReadmeExample.class", "ReadmeExample.java", ""}) {
            Files.deleteIfExists(made.resolve(name));
        }
        return told;
    }
}
