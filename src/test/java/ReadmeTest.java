import java.io.IOException;
import java.net.URL;
import java.net.URLClassLoader;
import java.nio.file.Files;
import java.nio.file.Path;
import java.util.ArrayList;
import java.util.List;
import java.util.TreeSet;
import java.util.regex.Matcher;
import java.util.regex.Pattern;
import java.util.stream.Stream;
import javax.tools.ToolProvider;

/** What README.md says is so: its example's calls answer as it says, and it names each test and the command for all. */
public final class ReadmeTest {
    private static final Pattern EXAMPLE = Pattern.compile("```java\n(.*?)```", Pattern.DOTALL);
    /** A call, what its answer is kept as (if it is), and the answer that README.md tells. */
    private static final Pattern CALL = Pattern.compile("(?:int (\\w+) = )?(map\\.(\\w+)\\(.*\\));\\s*// (-?\\d+): .*");
    private static final Pattern TEST = Pattern.compile("\\b\\w+Test\\b");
    private static final List<String> METHODS = List.of("price", "make", "part", "join", "sell", "settle", "buy", "average",
            "look", "money", "owed", "parish", "cost", "field", "differ", "entry", "count");
    private static final List<String> told = new ArrayList<>();
    private static int wrong = 0;

    public static void main(String[] args) throws IOException, ReflectiveOperationException {
        String readme = Files.readString(Path.of("README.md"));
        example(readme);
        tests(readme);
        System.out.println(wrong == 0 ? "README.md's " + told.size() + " calls answer as it says" : wrong + " faults");
        if (wrong != 0) {
            System.exit(1);
        }
    }

    private static void fault(String what) {
        wrong++;
        System.out.println(what);
    }

    /** What the example, as it is compiled here, calls for each of its calls. */
    public static void due(String call, long got, long want) {
        told.add(call);
        if (got != want) {
            fault(call + " answered " + got + ", README.md says " + want);
        }
    }

    private static void example(String readme) throws IOException, ReflectiveOperationException {
        Matcher block = EXAMPLE.matcher(readme);
        if (!block.find()) {
            fault("README.md has no example");
            return;
        }
        TreeSet<String> missing = new TreeSet<>(METHODS);
        StringBuilder body = new StringBuilder();
        int calls = 0;
        for (String line : block.group(1).split("\n")) {
            Matcher call = CALL.matcher(line);
            if (call.matches()) {
                body.append(held(call));
                missing.remove(call.group(3));
                calls++;
            } else if (line.isBlank() || line.equals("TitheMap map = new TitheMap();")) {
                body.append(line).append('\n');
            } else {
                fault("README.md tells no answer of: " + line);
            }
        }
        if (!missing.isEmpty()) {
            fault("the example has no call of " + missing);
        }
        run(body.toString());
        if (told.size() != calls) {
            fault("of " + calls + " calls " + told.size() + " were made");
        }
    }

    private static String held(Matcher call) {
        String kept = call.group(1) == null ? "" : "int " + call.group(1) + " = " + call.group(2) + "; ";
        String answer = call.group(1) == null ? call.group(2) : call.group(1);
        return kept + "ReadmeTest.due(\"" + call.group(2) + "\", " + answer + ", " + call.group(4) + "L);\n";
    }

    private static void run(String body) throws IOException, ReflectiveOperationException {
        Path place = Files.createTempDirectory("readme");
        Path source = place.resolve("ReadmeExample.java");
        try {
            Files.writeString(source, "public class ReadmeExample { public static void run() {\n" + body + "} }\n");
            int code = ToolProvider.getSystemJavaCompiler().run(null, null, null, "-cp",
                    System.getProperty("java.class.path"), "-d", place.toString(), source.toString());
            if (code != 0) {
                fault("the example does not compile");
                return;
            }
            try (URLClassLoader loader = new URLClassLoader(new URL[] {place.toUri().toURL()})) {
                loader.loadClass("ReadmeExample").getMethod("run").invoke(null);
            }
        } finally {
            Files.deleteIfExists(place.resolve("ReadmeExample.class"));
            Files.deleteIfExists(source);
            Files.deleteIfExists(place);
        }
    }

    private static void tests(String readme) throws IOException {
        TreeSet<String> named = new TreeSet<>();
        Matcher test = TEST.matcher(readme);
        while (test.find()) {
            named.add(test.group());
        }
        TreeSet<String> there = new TreeSet<>();
        try (Stream<Path> files = Files.list(Path.of("src/test/java"))) {
            files.map(file -> file.getFileName().toString()).filter(name -> name.endsWith("Test.java"))
                    .forEach(name -> there.add(name.replace(".java", "")));
        }
        if (!named.equals(there)) {
            fault("README.md names " + named + ", there are " + there);
        }
        if (!readme.contains("`.ci/run`") || !Files.isExecutable(Path.of(".ci/run"))) {
            fault("README.md does not name .ci/run, or it can't be run");
        }
    }
}
