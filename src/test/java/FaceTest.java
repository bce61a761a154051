import java.lang.reflect.Constructor;
import java.lang.reflect.Field;
import java.lang.reflect.Method;
import java.lang.reflect.Modifier;
import java.nio.file.Files;
import java.nio.file.Path;
import java.util.Arrays;
import java.util.HashSet;
import java.util.Set;
import java.util.TreeSet;
import java.util.regex.Matcher;
import java.util.regex.Pattern;

/** The public face, and what of LANGUAGE.md a text of the class can tell. */
public final class FaceTest {
    private static final String[] FACE = {"status()int", "top()long", "bottom()long", "tray(int,int,int)boolean",
        "write(int,int,long)boolean", "read(int,int)long", "pour(int,int,int,int,int)boolean",
        "feed(int,int,int,int,int)int", "city(int)int", "weeks(int)int", "fault(int)int", "told(int)int",
        "extra(int,int)int", "happening(int,int)int", "watcher(int,int)int", "standing(int)int", "road(int,int)int",
        "hour(int)int", "order(int,int,boolean)boolean", "put(int,int)int", "raise(int,int)boolean",
        "plan(int,int,int)int", "bear(int)int", "post(int,int)boolean", "scare(int,int)boolean", "rule(int,int)boolean",
        "far(int,int)int", "way(int,int)int", "centre()int", "cut(int,int)int", "goal(int)int", "whereIn(int,int)int",
        "standingIn(int,int)int", "overIn(int)int", "becomes(int)int", "wagesIn(int,int)int", "warnedIn(int,int)int",
        "attends(int,int)int", "best(int)int", "bestWages(int)int", "fewest()int", "fewestSet()int",
        "explained(int)int", "sure(int)int", "laws(int,int)int", "lawFirst(int,int)int", "guard()int",
        "guardLeft()int", "game(int,int)int", "moveOf(int,int)int", "falls(int)boolean", "copyStanding(int)int",
        "live(int)int", "lived(int)int", "mean(int,int)boolean", "mark()int", "undo()int"};

    public static void main(String[] args) throws Exception {
        hasTheFace();
        hasNoMore();
        String root = args.length > 0 ? args[0] : ".";
        readsAsItShould(Files.readString(Path.of(root, "src/main/java/ExtraCaste.java")));
        Check.end();
    }

    private static String told(Method m) {
        StringBuilder b = new StringBuilder(m.getName()).append('(');
        for (Class<?> type : m.getParameterTypes()) {
            b.append(b.charAt(b.length() - 1) == '(' ? "" : ",").append(type.getSimpleName());
        }
        return b.append(')').append(m.getReturnType().getSimpleName()).toString();
    }

    private static void hasTheFace() throws Exception {
        Set<String> found = new TreeSet<>();
        for (Method m : ExtraCaste.class.getDeclaredMethods()) {
            if (Modifier.isPublic(m.getModifiers())) {
                found.add(told(m));
            }
        }
        Set<String> due = new TreeSet<>(Arrays.asList(FACE));
        Check.due("public methods " + found, found.equals(due), true);
        Check.due("final", Modifier.isFinal(ExtraCaste.class.getModifiers()), true);
        Check.due("one constructor", ExtraCaste.class.getDeclaredConstructors().length, 1);
        Constructor<?> constructor = ExtraCaste.class.getConstructor();
        Check.due("public", Modifier.isPublic(constructor.getModifiers()), true);
        Field none = ExtraCaste.class.getField("NONE");
        Check.due("NONE is final", Modifier.isStatic(none.getModifiers()) && Modifier.isFinal(none.getModifiers()), true);
    }

    private static void hasNoMore() {
        Set<String> names = new HashSet<>();
        for (String face : FACE) {
            names.add(face.substring(0, face.indexOf('(')));
        }
        for (Field f : ExtraCaste.class.getDeclaredFields()) {
            Check.due(f.getName(), f.getName().equals("NONE") || Modifier.isPrivate(f.getModifiers()), true);
        }
        for (Method m : ExtraCaste.class.getDeclaredMethods()) {
            if (!Modifier.isPublic(m.getModifiers())) {
                Check.due(m.getName() + " is private", Modifier.isPrivate(m.getModifiers()), true);
                Check.due(m.getName() + " is no public one's name", names.contains(m.getName()), false);
            }
        }
        Class<?>[] inside = ExtraCaste.class.getDeclaredClasses();
        Check.due("some twelve classes", inside.length <= 11, true);
        for (Class<?> c : inside) {
            Check.due(c + " is static", Modifier.isStatic(c.getModifiers()), true);
            int fields = 0;
            for (Field f : c.getDeclaredFields()) {
                fields += Modifier.isStatic(f.getModifiers()) ? 0 : 1;
            }
            Check.due(c + " has few fields", fields <= 20, true);
            for (Method m : c.getDeclaredMethods()) {
                Check.due(m + " takes few", m.getParameterCount() <= 7, true);
                Check.due(m + " is no public one's name", names.contains(m.getName()), false);
            }
        }
    }

    private static void readsAsItShould(String source) {
        String code = source.replaceAll("(?s)/\\*.*?\\*/", "").replaceAll("//[^\n]*", "")
            .replaceAll("\"[^\"]*\"", "\"\"");
        String[] refused = {"\\bthrow\\b", "\\bthrows\\b", "\\btry\\b", "\\bcatch\\b", "\\bassert\\b", "\\bsynchronized\\b",
            "->", "::", "\\bimport\\b", "\\bpackage\\b", "\\bObject\\b", "\\bequals\\b", "\\bhashCode\\b", "\\btoString\\b",
            "\\bdouble\\b", "\\bfloat\\b", "\" *\\+", "\\+ *\"", "\\bstatic *\\{", "Exact\\b", "\\bSystem\\.[^a]"};
        for (String word : refused) {
            Matcher m = Pattern.compile(word).matcher(code);
            Check.due("the class has " + word, m.find(), false);
        }
        for (int i = 0; i < source.length(); i++) {
            if (source.charAt(i) > 126) {
                Check.due("sign at " + i, source.charAt(i), 126);
            }
        }
        methodsStayShort(source.split("\n"));
    }

    private static void methodsStayShort(String[] lines) {
        Pattern head = Pattern.compile("^( {4}| {8})[a-zA-Z].*\\) \\{$");
        for (int i = 0; i < lines.length; i++) {
            if (head.matcher(lines[i]).find()) {
                String end = lines[i].startsWith("        ") ? "        }" : "    }";
                int last = i;
                while (last < lines.length && !lines[last].equals(end)) {
                    last++;
                }
                Check.due("lines of" + lines[i], last - i < 60, true);
            }
        }
    }
}
