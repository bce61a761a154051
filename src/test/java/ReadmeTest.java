import java.io.IOException;
import java.net.URL;
import java.net.URLClassLoader;
import java.nio.file.Files;
import java.nio.file.Path;
import java.util.ArrayList;
import java.util.Comparator;
import java.util.List;
import java.util.regex.Matcher;
import java.util.regex.Pattern;
import java.util.stream.Collectors;
import java.util.stream.Stream;
import javax.tools.ToolProvider;

/** README.md: what it shows as examples compiles, and answers as it says; the files that it names are there. */
public final class ReadmeTest {
    private static final Pattern BLOCK = Pattern.compile("(?ms)^```java\n(.*?)^```$");
    private static final Pattern ANSWERED =
        Pattern.compile("(\\w+ (\\w+) = )?(caste\\.\\w+\\(.*\\)); *// (-?\\d+|NONE|true|false)(:? .*)?");
    private static final Pattern FAULT =
        Pattern.compile("(?m)^\\| (\\d) \\| .* \\| (CITY|WEEKS) \\| `(.*)` \\| (\\d+) \\|$");
    private static final Pattern FILE = Pattern.compile("(?<![\\w*./])[\\w./]*\\w\\.(java|md)|\\.ci/run");

    private final List<String> calls = new ArrayList<>();
    private final List<String> due = new ArrayList<>();
    private final StringBuilder helpers = new StringBuilder();
    private final StringBuilder body = new StringBuilder();

    public static void main(String[] args) throws Exception {
        Path root = Path.of(args.length > 0 ? args[0] : ".");
        String readme = Files.readString(root.resolve("README.md"));
        new ReadmeTest().examples(readme);
        faults(readme);
        statuses(readme);
        says(readme);
        files(readme, root);
        Check.end();
    }

    private void examples(String readme) throws Exception {
        Matcher blocks = BLOCK.matcher(readme);
        while (blocks.find()) {
            if (blocks.group(1).startsWith("static ")) {
                helpers.append(blocks.group(1));
            } else {
                blocks.group(1).lines().forEach(this::addLine);
            }
        }
        List<String> seen = run();
        Check.due("examples are asked", seen.size(), due.size());
        Check.due("many examples", due.size() > 50, true);
        for (int i = 0; i < due.size(); i++) {
            Check.due(calls.get(i) + " answered " + seen.get(i) + ", README.md says " + due.get(i),
                seen.get(i).equals(due.get(i)), true);
        }
    }

    private void addLine(String line) {
        Matcher m = ANSWERED.matcher(line);
        if (!m.matches()) {
            Check.due("a line that tells no answer: " + line, line.contains("//") || line.startsWith("caste."), false);
            body.append(line).append('\n');
            return;
        }
        calls.add(m.group(3));
        due.add(m.group(4).equals("NONE") ? "-1" : m.group(4));
        if (m.group(1) == null) {
            body.append("SEEN.add(String.valueOf(").append(m.group(3)).append("));\n");
        } else {
            body.append(line).append("\nSEEN.add(String.valueOf(").append(m.group(2)).append("));\n");
        }
    }

    private List<String> run() throws Exception {
        Path folder = Files.createTempDirectory("readme");
        try {
            Path file = folder.resolve("Example.java");
            Files.writeString(file, "public final class Example {\n"
                + "public static final java.util.List<String> SEEN = new java.util.ArrayList<>();\n"
                + helpers + "public static void run() {\n" + body + "}\n}\n");
            int wrong = ToolProvider.getSystemJavaCompiler().run(null, null, null, "-d", folder.toString(), "-cp",
                System.getProperty("java.class.path"), file.toString());
            Check.due("javac of the examples", wrong, 0);
            if (wrong != 0) {
                return List.of();
            }
            try (URLClassLoader loader = new URLClassLoader(new URL[] {folder.toUri().toURL()})) {
                Class<?> example = loader.loadClass("Example");
                example.getMethod("run").invoke(null);
                return ((List<?>) example.getField("SEEN").get(null)).stream().map(String::valueOf)
                    .collect(Collectors.toList());
            }
        } finally {
            delete(folder);
        }
    }

    private static void delete(Path folder) throws IOException {
        try (Stream<Path> all = Files.walk(folder)) {
            for (Path path : all.sorted(Comparator.reverseOrder()).collect(Collectors.toList())) {
                Files.delete(path);
            }
        }
    }

    /** The table of FAULTS: each text has its FAULT at its place. */
    private static void faults(String readme) {
        Matcher row = FAULT.matcher(readme);
        int kinds = 0;
        while (row.find()) {
            ExtraCaste x = new ExtraCaste();
            String text = row.group(3);
            Check.refused(x, text, row.group(2).equals("CITY") ? Check.city(x, text) : Check.weeks(x, text), 9);
            Check.due("fault of " + text, x.fault(0), Integer.parseInt(row.group(1)));
            Check.due("place in " + text, x.fault(1), Integer.parseInt(row.group(4)));
            kinds |= 1 << Integer.parseInt(row.group(1));
        }
        Check.due("FAULTS 1 to 7 have an example", kinds, 254);
    }

    /** Each STATUS has a row, and an example. */
    private static void statuses(String readme) {
        for (int status = 0; status <= 9; status++) {
            Pattern row = Pattern.compile("(?m)^\\| " + status + " \\| [^|]+ \\|$");
            Check.due("STATUS " + status, row.matcher(readme).find(), true);
            Pattern example = Pattern.compile("(?m)^caste\\.status\\(\\); *// " + status + "(:.*)?$");
            Check.due("an example of STATUS " + status, example.matcher(readme).find(), true);
        }
    }

    private static void says(String readme) {
        String[] all = {"new ExtraCaste()", "at most 512 calls", "`feed()` puts 20 bytes", "`city(n)`", "`weeks(n)`",
            "`status()` says why", "`ExtraCaste.NONE`", "or false", "`fault(0)`", "`fault(1)`",
            "\n.ci/run\n", "../shared/tests"};
        for (String one : all) {
            Check.due("README.md has " + one, readme.contains(one), true);
        }
    }

    private static void files(String readme, Path root) {
        Matcher m = FILE.matcher(readme);
        int named = 0;
        while (m.find()) {
            if (!m.group().equals("YourProgram.java")) {
                Check.due("there is " + m.group(), Files.exists(root.resolve(m.group())), true);
                named++;
            }
        }
        Check.due("files are named", named >= 5, true);
        String[] tests = {"RulesTest", "FaceTest", "RoomTest", "OracleTest", "ReadmeTest", "EdgeWaysTest"};
        for (String name : tests) {
            Check.due("README.md names " + name, readme.contains(name), true);
            Check.due("there is " + name, Files.exists(root.resolve("src/test/java/" + name + ".java")), true);
        }
    }
}
