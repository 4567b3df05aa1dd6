import java.io.IOException;
import java.nio.file.Files;
import java.nio.file.Path;
import java.util.Comparator;
import java.util.List;
import java.util.stream.Stream;

/** .ci/run runs every test, of the project and of ../shared/tests, and fails if one fails; seen on projects of a few lines. */
public final class RunnerTest {
    private static final String CLASS = "public final class TitheMap { }\n";
    private static int wrong = 0;

    public static void main(String[] args) throws IOException, InterruptedException {
        all("every test passes", 0, passing("OneTest"), passing("TwoTest"), passing("Shared"), passing("SharedToo"));
        all("a test of the project fails", 1, failing("OneTest"), passing("TwoTest"), passing("Shared"), passing("SharedToo"));
        all("the last shared test fails", 1, passing("OneTest"), passing("TwoTest"), passing("Shared"), failing("SharedToo"));
        all("a test does not compile", 1, "class", passing("TwoTest"), passing("Shared"), passing("SharedToo"));
        System.out.println(wrong == 0 ? ".ci/run runs all tests and tells a failure" : wrong + " faults");
        if (wrong != 0) {
            System.exit(1);
        }
    }

    private static String test(String name, int code) {
        return "public class " + name + " { public static void main(String[] a) { new TitheMap();"
                + " System.out.println(\"ran " + name + "\"); System.exit(" + code + "); } }\n";
    }

    private static String passing(String name) {
        return test(name, 0);
    }

    private static String failing(String name) {
        return test(name, 1);
    }

    /** Each test that compiles must have run, also those behind one that failed. */
    private static void all(String what, int due, String one, String two, String shared, String sharedToo)
            throws IOException, InterruptedException {
        Path place = Files.createTempDirectory("runner");
        try {
            write(place, "main/src/main/java/TitheMap.java", CLASS);
            write(place, "main/src/test/java/OneTest.java", one);
            write(place, "main/src/test/java/TwoTest.java", two);
            write(place, "shared/tests/Shared.java", shared);
            write(place, "shared/tests/SharedToo.java", sharedToo);
            write(place, "main/.ci/run", Files.readString(Path.of(".ci/run")));
            Path out = place.resolve("out");
            int code = new ProcessBuilder("bash", place.resolve("main/.ci/run").toString())
                    .redirectErrorStream(true).redirectOutput(out.toFile()).start().waitFor();
            List<String> lines = Files.readAllLines(out);
            if ((code == 0) != (due == 0)) {
                fault(what + ": .ci/run ended with " + code, lines);
            }
            for (String test : List.of(one, two, shared, sharedToo)) {
                String name = test.split(" ").length > 2 ? test.split(" ")[2] : "";
                if (!name.isEmpty() && !lines.contains("ran " + name)) {
                    fault(what + ": " + name + " was not run", lines);
                }
            }
        } finally {
            remove(place);
        }
    }

    private static void fault(String what, List<String> lines) {
        wrong++;
        System.out.println(what);
        lines.forEach(line -> System.out.println("    " + line));
    }

    private static void write(Path place, String name, String text) throws IOException {
        Path file = place.resolve(name);
        Files.createDirectories(file.getParent());
        Files.writeString(file, text);
    }

    private static void remove(Path place) throws IOException {
        List<Path> all;
        try (Stream<Path> paths = Files.walk(place)) {
            all = paths.sorted(Comparator.reverseOrder()).toList();
        }
        for (Path path : all) {
            Files.deleteIfExists(path);
        }
    }
}
