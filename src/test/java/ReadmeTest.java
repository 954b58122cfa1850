import java.io.IOException;
import java.net.URL;
import java.net.URLClassLoader;
import java.nio.file.Files;
import java.nio.file.Path;
import java.util.ArrayList;
import java.util.List;
import java.util.Set;
import java.util.TreeSet;
import java.util.regex.Matcher;
import java.util.regex.Pattern;
import java.util.stream.Stream;
import javax.tools.ToolProvider;

/** What README.md says is so: its programs, its calls, its refusals, its commands, its tests. */
public final class ReadmeTest {
    private static final Check C = new Check("ReadmeTest");
    private static final Path DOC = Path.of("../shared/DOC.md");
    private static final Path TESTS = Path.of("src/test/java");
    private static final Path BUILD = Path.of("build/readme");
    private static final Pattern CALL = Pattern.compile("(x\\.\\w+\\([^;]*\\));\\s+// (-?\\w[\\w.]*)(?:[:;].*)?");
    private static final int CALLS_OF_AN_OBJECT = 512;

    private final String page;

    private ReadmeTest() throws IOException {
        page = Files.readString(Path.of("README.md"));
    }

    public static void main(String[] args) throws Exception {
        ReadmeTest t = new ReadmeTest();
        t.programs();
        t.calls();
        t.refusals();
        t.commands();
        t.tests();
        C.finish();
    }

    private List<String> blocks(String language) {
        List<String> all = new ArrayList<>();
        Matcher m = Pattern.compile("(?s)```" + language + "\n(.*?)```").matcher(page);
        while (m.find()) {
            all.add(m.group(1));
        }
        return all;
    }

    /** The parts of the page go on from one another: they are compiled as one, and each call is held against its answer. */
    private void programs() throws Exception {
        List<String> calls = new ArrayList<>();
        StringBuilder source = new StringBuilder("public final class ReadmeUse {\n    public static long[][] answers() {\n");
        for (String row : String.join("", blocks("java")).split("\n")) {
            Matcher m = CALL.matcher(row);
            if (m.matches()) {
                calls.add(row);
                source.append(calls.size() > 1 ? ",\n" : "return new long[][] {\n");
                source.append('{').append(m.group(1)).append(", ").append(m.group(2)).append('}');
            } else {
                C.holds("a row of a program that makes the object: " + row, calls.isEmpty() && row.equals("PastOnce x = new PastOnce();"));
                source.append(row).append('\n');
            }
        }
        source.append("};\n}\n}\n");
        C.holds("no more calls than an object is used for", calls.size() <= CALLS_OF_AN_OBJECT);
        long[][] answers = answersOf(source.toString());
        C.due("answers", answers.length, calls.size());
        for (int i = 0; i < answers.length; i++) {
            C.due(calls.get(i), answers[i][0], answers[i][1]);
        }
    }

    private static long[][] answersOf(String source) throws Exception {
        Files.createDirectories(BUILD);
        Path file = BUILD.resolve("ReadmeUse.java");
        Files.writeString(file, source);
        int wrong = ToolProvider.getSystemJavaCompiler().run(null, null, null, "-cp", System.getProperty("java.class.path"),
                "-d", BUILD.toString(), file.toString());
        C.due("the programs compile", wrong, 0);
        if (wrong != 0) {
            return new long[0][];
        }
        try (URLClassLoader loader = new URLClassLoader(new URL[] {BUILD.toUri().toURL()}, ReadmeTest.class.getClassLoader())) {
            return (long[][]) loader.loadClass("ReadmeUse").getMethod("answers").invoke(null);
        }
    }

    /** The calls of the page are those of the document's face, in their order, each with its promise. */
    private void calls() throws IOException {
        String doc = Files.readString(DOC);
        List<String> due = new ArrayList<>();
        due.add("new PastOnce() 1");
        Matcher face = Pattern.compile("public (?:int|long) (\\w+)\\((.*)\\);").matcher(doc);
        while (face.find()) {
            Matcher promise = Pattern.compile("## Promise (\\d+): " + face.group(1) + "\n").matcher(doc);
            String number = promise.find() ? promise.group(1) : "none";
            due.add(face.group(1) + "(" + face.group(2).replaceAll("(int|long) ", "") + ") " + number);
        }
        List<String> told = new ArrayList<>();
        Matcher row = Pattern.compile("(?m)^\\| `([^`]*\\))` \\|.*\\| (\\d+) \\|$").matcher(page);
        while (row.find()) {
            told.add(row.group(1) + " " + row.group(2));
        }
        C.due("calls", told.size(), due.size());
        for (int i = 0; i < Math.min(told.size(), due.size()); i++) {
            C.holds("the call " + told.get(i) + " is " + due.get(i), told.get(i).equals(due.get(i)));
        }
    }

    private void refusals() throws ReflectiveOperationException {
        Matcher row = Pattern.compile("(?m)^\\| (-\\d+) \\| (?:`PastOnce\\.(\\w+)`)? ?\\|").matcher(page);
        Set<Long> told = new TreeSet<>();
        while (row.find()) {
            long answer = Long.parseLong(row.group(1));
            told.add(answer);
            if (row.group(2) != null) {
                C.due(row.group(2), PastOnce.class.getField(row.group(2)).getInt(null), answer);
            }
        }
        Set<Long> due = Set.of(-1L, -2L, -3L, -5L, -11L, -12L, -13L, -14L, -2000000000L, Long.MIN_VALUE);
        C.holds("all refusals are told: " + told, told.equals(new TreeSet<>(due)));
    }

    /** Each command runs as it stands there, but the one that runs this test. */
    private void commands() throws IOException, InterruptedException {
        List<String> all = blocks("sh");
        C.holds("the first command runs all tests", !all.isEmpty() && all.get(0).equals(".ci/run\n") && Files.isExecutable(Path.of(".ci/run")));
        C.due("commands that run some", all.size(), 3);
        for (int i = 1; i < all.size(); i++) {
            Process p = new ProcessBuilder("bash", "-ec", all.get(i)).redirectErrorStream(true).start();
            String said = new String(p.getInputStream().readAllBytes());
            C.due(all.get(i) + said, p.waitFor(), 0);
        }
    }

    /** The page names the files of the tests, and no others. */
    private void tests() throws IOException {
        Set<String> files = new TreeSet<>();
        try (Stream<Path> all = Files.list(TESTS)) {
            all.forEach(f -> files.add(f.getFileName().toString().replace(".java", "")));
        }
        Set<String> named = new TreeSet<>();
        Matcher m = Pattern.compile("`([A-Z][A-Za-z]+)`").matcher(page.substring(page.indexOf("## How to run its tests")));
        while (m.find()) {
            named.add(m.group(1));
        }
        C.holds("the page names the tests " + files + ", and names " + named, named.equals(files));
    }
}
