import java.io.File;
import java.io.PrintWriter;
import java.io.StringWriter;
import java.util.ArrayList;
import java.util.Arrays;
import java.util.HashMap;
import java.util.HashSet;
import java.util.LinkedHashSet;
import java.util.List;
import java.util.Map;
import java.util.Set;
import java.util.regex.Matcher;
import java.util.regex.Pattern;
import java.util.spi.ToolProvider;

/** What of LANGUAGE.md the class file tells, as javap shows it: rules 2, 4, 5, 6, 11, 12. */
public final class RulesTest {
    private static final Pattern HEAD = Pattern.compile("  (?:\\w+ )*(?:[\\w.$\\[\\]]+ )?([\\w.$]+)\\(.*\\);");
    private static final Pattern CODE = Pattern.compile(" +\\d+: (\\w+).*");
    private static final Pattern CALLED =
        Pattern.compile(".*// (?:Interface)?Method (?:([\\w/$]+)\\.)?\"?([\\w<>]+)\"?:.*");
    /** Rule 4, as far as the class uses it. */
    private static final Set<String> LIBRARY = new HashSet<>(Arrays.asList("java/lang/Object.<init>",
        "java/lang/String.length", "java/lang/String.charAt", "java/lang/Math.max", "java/lang/Math.min",
        "java/lang/Integer.bitCount", "java/lang/System.arraycopy"));
    private static final int DEEPEST = 8;

    /** By each method the methods that it calls. */
    private final Map<String, Set<String>> calls = new HashMap<>();
    private final Map<String, List<String>> deepest = new HashMap<>();

    public static void main(String[] args) throws Exception {
        if (ToolProvider.findFirst("javap").isEmpty()) {
            System.out.println("this JDK has no javap: the class file is not looked at");
            return;
        }
        RulesTest test = new RulesTest();
        File folder = new File(ExtraCaste.class.getProtectionDomain().getCodeSource().getLocation().toURI());
        for (String file : folder.list()) {
            if (file.matches("ExtraCaste(\\$\\w+)?\\.class")) {
                test.look(file.replace(".class", ""), new File(folder, file).getPath());
            }
        }
        Check.due("methods are seen", test.calls.size() > 200, true);
        test.noCallsGoDeeper();
        Check.end();
    }

    private void look(String owner, String file) {
        StringWriter told = new StringWriter();
        PrintWriter out = new PrintWriter(told);
        Check.due("javap", ToolProvider.findFirst("javap").orElseThrow().run(out, out, "-c", "-p", file), 0);
        String method = "";
        for (String line : told.toString().split("\n")) {
            Matcher head = HEAD.matcher(line);
            Matcher code = CODE.matcher(line);
            if (head.matches()) {
                method = owner + "." + (head.group(1).equals(owner) ? "<init>" : head.group(1));
                calls.putIfAbsent(method, new LinkedHashSet<>());
            } else if (line.equals("  static {};")) {
                method = owner + ".<clinit>";
            } else if (code.matches()) {
                lookAt(owner, method, code.group(1), line);
            }
            Check.due(method + " catches nothing", line.contains("Exception table"), false);
        }
    }

    private void lookAt(String owner, String method, String code, String line) {
        // Rules 2 and 6. Casts and doubles are allowed with care, but the class does without.
        String[] refused = {"athrow", "invokedynamic", "monitorenter", "checkcast", "instanceof"};
        Check.due(method + " has " + code, Arrays.asList(refused).contains(code), false);
        Check.due(method + " has " + code, code.matches("[df](add|sub|mul|div|rem|neg|load|store|return).*"), false);
        // Rule 5.
        Check.due(method + " changes a static field", code.equals("putstatic"), false);
        // Rule 12: all that a run needs is made with the object.
        boolean makes = code.matches("new|newarray|anewarray|multianewarray");
        Check.due(method + " makes something: " + line, makes && !method.endsWith(".<init>"), false);
        Matcher called = CALLED.matcher(line);
        if (called.matches()) {
            String name = (called.group(1) == null ? owner : called.group(1)) + "." + called.group(2);
            calls.get(method).add(name);
            Check.due(method + " calls " + name, name.startsWith("ExtraCaste") || LIBRARY.contains(name), true);
        }
    }

    /** Rule 11, the library's own calls counted, too; of a recursion one round. */
    private void noCallsGoDeeper() {
        for (String method : calls.keySet()) {
            List<String> line = below(method, new ArrayList<>());
            Check.due("calls go deep: " + line, line.size() <= DEEPEST, true);
        }
        Check.due("some go as deep as may be", below("ExtraCaste.city", new ArrayList<>()).size(), DEEPEST);
    }

    private List<String> below(String method, List<String> open) {
        if (open.contains(method)) {
            return List.of();
        }
        if (deepest.containsKey(method)) {
            return deepest.get(method);
        }
        open.add(method);
        List<String> longest = List.of();
        for (String called : calls.getOrDefault(method, Set.of())) {
            List<String> line = below(called, open);
            if (line.size() > longest.size()) {
                longest = line;
            }
        }
        open.remove(method);
        List<String> line = new ArrayList<>(List.of(method));
        line.addAll(longest);
        deepest.put(method, line);
        return line;
    }
}
