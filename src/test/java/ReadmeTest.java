import java.io.IOException;
import java.lang.reflect.Method;
import java.lang.reflect.Modifier;
import java.nio.file.DirectoryStream;
import java.nio.file.Files;
import java.nio.file.Path;
import java.util.ArrayList;
import java.util.List;
import java.util.TreeSet;

/** README.md: its example answers what it says, and its tables name every call and every test. */
public final class ReadmeTest {
    private static final Bench BENCH = new Bench("ReadmeTest");
    private static final Path README = Path.of("README.md");
    private static final Path TESTS = Path.of("src/test/java");

    public static void main(String[] args) throws IOException {
        exampleAnswersWhatItSays();
        exampleIsTheOneOfThisTest();
        everyCallIsNamed();
        everyTestIsNamed();
        BENCH.end();
    }

    private static void exampleAnswersWhatItSays() {
        // the example begins
        LoopDevice x = new LoopDevice(5, 7, 66051);   // maker, kind, number
        x.octets(0xFFFFFF02);                         // preamble and mark: four bytes, four ticks
        x.octets(0x80000082);                         // master 0 to short address 0: command 0, count 0, sum
        int answered = x.tick(30);                    // 30 ticks without a byte: 19 bytes went out
        int first = x.sent(0);                        // 255
        int tick = x.when(0);                         // 9: the second tick behind the one of the sum

        x.octets(0xFFFFFF02);                         // the next frame
        x.octets(0x806D0101);                         // command 109 with one byte, 1: BURST is on
        x.octet(0xEF);                                // its sum
        int on = x.tick(14);                          // 32: its answer has 13 bytes
        int quiet = x.tick(8);                        // 32: eight quiet ticks, then it sends on its own
        long before = x.variable(0, 2500);            // 0: the burst tells variable 0 as it is at its first byte
        int burst = x.tick(21);                       // 53: the burst has 21 bytes
        int mark = x.sent(37);                        // 129, behind five bytes 255
        long bursts = x.has(7);                       // 1
        // the example ends
        BENCH.due("answered", answered, 19);
        BENCH.due("first", first, 255);
        BENCH.due("tick", tick, 9);
        BENCH.due("on", on, 32);
        BENCH.due("quiet", quiet, 32);
        BENCH.due("before", before, 0);
        BENCH.due("burst", burst, 53);
        BENCH.due("mark", mark, 129);
        BENCH.due("bursts", bursts, 1);
        BENCH.due("variable 0 in the burst", new int[] {x.sent(48), x.sent(49), x.sent(50), x.sent(51)},
                Wire.four(2500));
    }

    private static void exampleIsTheOneOfThisTest() throws IOException {
        String inReadme = between(README, "```java", "```");
        String here = between(TESTS.resolve("ReadmeTest.java"), "// the example begins", "// the example ends");
        BENCH.due("the example", inReadme, here);
    }

    /** The lines behind the first line that is one text, up to the next that is another. */
    private static String between(Path file, String begin, String end) throws IOException {
        List<String> found = new ArrayList<>();
        boolean inside = false;
        for (String line : Files.readAllLines(file)) {
            String text = line.strip();
            if (inside && text.equals(end)) {
                return String.join("\n", found);
            }
            if (inside) {
                found.add(text);
            }
            inside = inside || text.equals(begin);
        }
        return "none in " + file;
    }

    private static void everyCallIsNamed() throws IOException {
        TreeSet<String> calls = new TreeSet<>();
        for (Method m : LoopDevice.class.getDeclaredMethods()) {
            if (Modifier.isPublic(m.getModifiers())) {
                calls.add(m.getName());
            }
        }
        BENCH.due("the calls", rows("| call |").toString(), calls.toString());
    }

    private static void everyTestIsNamed() throws IOException {
        TreeSet<String> tests = new TreeSet<>();
        try (DirectoryStream<Path> files = Files.newDirectoryStream(TESTS, "*Test.java")) {
            for (Path file : files) {
                tests.add(file.getFileName().toString().replace(".java", ""));
            }
        }
        BENCH.due("the tests", rows("| test |").toString(), tests.toString());
    }

    /** The names at the begin of the rows of a table, without what a call takes. */
    private static TreeSet<String> rows(String head) throws IOException {
        TreeSet<String> names = new TreeSet<>();
        boolean inside = false;
        for (String line : Files.readAllLines(README)) {
            inside = line.startsWith(head) || inside && line.startsWith("|");
            if (inside && line.startsWith("| `")) {
                names.add(line.split("[`(]")[1]);
            }
        }
        return names;
    }
}
