import java.util.ArrayList;
import java.util.List;

/**
 * The Terms' empty and full, promises 5 to 58: every call, with all numbers it takes and those beyond, on an object
 * without a CITY, on CITIES that lack one sort of thing, and on those with the most of each. The Oracle tells what is due.
 * An object is asked more than 512 times here, as OracleTest does, too.
 */
public final class EdgeEmptyFullTest {
    private static final int LEAST = Integer.MIN_VALUE;
    private static final int MOST = Integer.MAX_VALUE;
    private static final int[] CORNERS = {0, 1, 2, 3, 4, 5, 6, 7, 8, -1, LEAST, MOST};
    private static final int[] THINGS = {0, 1, 3, 4, 6, 7, 8, -1, LEAST, MOST};
    private static final int[] HOURS = {0, 1, 2, 299, 300, 301, -1};
    private static final int[] TRAYS = {0, 1, 2, 3, 4, -1};

    public static void main(String[] args) throws Exception {
        List<long[]> asked = new ArrayList<>();
        List<String> names = new ArrayList<>();
        gather(names, asked);
        String full = full();
        String[][] cities = {
            {"no CITY", null, null}, {"a CITY of no PART", "", ""}, {"no WEEKS", full, null}, {"WEEKS of no STEP", full, ""},
            {"one CORNER alone", "corner ca;", "any;"},
            {"no EXTRA", full.replaceAll("extra [^;]*;|roster [^;]*;", ""), "any;hour 1;"},
            {"no HAPPENING", full.replaceAll("happening [^;]*;|roster [^;]*;", ""), "any;hour 1;"},
            {"no WATCHER", full.replaceAll("watcher [^;]*;", ""), "any;hour 1;"},
            {"no ROAD", full.replaceAll("road [^;]*;", ""), "any;hour 1;"},
            {"no ROSTER", full.replaceAll("roster [^;]*;", ""), "any;hour 1;"},
            {"the most of each", full, thirty()},
            {"the most of each, as GREAT as can be", full.replaceAll("great .", "great 4"), thirty()},
            {"the most of each, at one CORNER", full.replaceAll("at c.", "at cd"), thirty()},
            {"the most ROADS between two", full.replaceAll("road c. c.", "road ca cb"), thirty()}};
        for (String[] city : cities) {
            for (int hours : new int[] {0, 2, 5}) {
                askAll(city, hours, names, asked);
            }
        }
        Check.end();
    }

    /** Eight CORNERS, twelve ROADS, seven EXTRAS, eight HAPPENINGS, four WATCHERS. */
    private static String full() {
        StringBuilder b = new StringBuilder("wage 9;odds 5;");
        b.append(Edge.many("corner c#;", 8));
        String[] roads = {"a c", "b c", "c d", "d e", "e f", "f g", "g h", "h a", "a e", "b f", "c g", "a b"};
        for (int i = 0; i < roads.length; i++) {
            b.append("road c").append(roads[i].charAt(0)).append(" c").append(roads[i].charAt(2)).append(" takes ")
                .append(1 + i % 5).append(';');
        }
        b.append(Edge.many("extra e# at c#;", 7));
        for (int i = 0; i < 8; i++) {
            b.append("happening h").append((char) ('a' + i)).append(" at c").append((char) ('a' + 3 * i % 8)).append(" hour ")
                .append(3 * i % 7).append(" great ").append(1 + i % 2).append(';');
        }
        b.append(Edge.many("watcher w# at c# fears 1;", 4));
        b.append("roster ea ha hc;roster ec hb hd;roster eg hg hh;");
        Check.due("within 900 bytes: " + b.length(), b.length() <= 900, true);
        return b.toString();
    }

    private static String thirty() {
        String weeks = "loop 9;when over ha;order ea hh;end;hour 1;end;put hh 9;loop 2;loop 3;any;end;end;" + Edge.many("any;", 21);
        Check.due("within 300 bytes", weeks.length() <= 300, true);
        return weeks;
    }

    private static Both made(String[] city, int hours) throws Exception {
        Both both = new Both();
        if (city[1] != null) {
            both.text(city[0], "city", city[1]);
            Check.due(city[0] + ": its text", both.caste.status(), 0);
        }
        if (city[2] != null) {
            both.text(city[0], "weeks", city[2]);
            Check.due(city[0] + ": its WEEKS", both.caste.status(), 0);
        }
        if (hours > 0) {
            both.call(city[0], "hour", hours);
        }
        both.call(city[0], "tray", 0, 0, 8);
        both.call(city[0], "tray", 1, 3, 0);
        both.call(city[0], "tray", 2, 1, 60);
        both.call(city[0], "write", 0, 3, 5);
        for (int i = 0; i < 60; i++) {
            both.call(city[0], "write", 2, i, i % 3 == 0 ? 1 + i % 4 : i % 3 == 1 ? 4 : 1);
        }
        return both;
    }

    private static void askAll(String[] city, int hours, List<String> names, List<long[]> asked) throws Exception {
        String what = city[0] + " behind " + hours + " HOURS";
        Both both = made(city, hours);
        for (int i = 0; i < names.size(); i++) {
            both.call(what, names.get(i), asked.get(i));
        }
        // What does something is asked of objects of their own.
        for (String[] call : DEEDS) {
            for (int a : call.length > 1 ? THINGS : new int[] {0}) {
                if (call.length > 2) {
                    Both own = made(city, hours);
                    for (int b : THINGS) {
                        deed(own, what, call, a, b);
                    }
                } else {
                    deed(made(city, hours), what, call, a, 0);
                }
            }
        }
    }

    /** Calls that do something, with a letter for each number that is drawn through all THINGS. */
    private static final String[][] DEEDS = {{"live"}, {"mean"}, {"mark"}, {"undo"}, {"plan", "a"}, {"bear", "a"}, {"put", "a", "b"},
        {"raise", "a", "b"}, {"post", "a", "b"}, {"scare", "a", "b"}, {"order", "a", "b"}, {"rule", "a", "b"}, {"hour", "a"}};

    private static void deed(Both own, String what, String[] call, int a, int b) throws Exception {
        switch (call[0]) {
            case "live": own.call(what, "live", 9999); break;
            case "mean": own.call(what, "mean", 9980, 20); break;
            case "plan": own.call(what, "plan", a, 6, 1); break;
            case "order":
                own.call(what, "order", a, b, 1);
                own.call(what, "order", a, b, 0);
                break;
            default:
                own.call(what, call[0], call.length == 1 ? new long[0] : call.length == 2 ? new long[] {a} : new long[] {a, b});
                break;
        }
        own.call(what, "told", 9);
        own.call(what, "told", 13);
        own.call(what, "told", 3);
    }

    private static void ask(List<String> names, List<long[]> asked, String call, long... p) {
        names.add(call);
        asked.add(p);
    }

    private static void gather(List<String> names, List<long[]> asked) {
        for (String call : "centre fewest fewestSet guard guardLeft".split(" ")) {
            ask(names, asked, call);
        }
        for (int n = -1; n <= 14; n++) {
            ask(names, asked, "told", n);
            ask(names, asked, "lived", n);
            ask(names, asked, "falls", n);
        }
        for (int a : CORNERS) {
            ask(names, asked, "standing", a);
            for (int b : CORNERS) {
                for (String call : "road far way cut".split(" ")) {
                    ask(names, asked, call, a, b);
                }
            }
            for (int hours : HOURS) {
                ask(names, asked, "standingIn", a, hours);
            }
            for (int turns = -1; turns <= 3; turns++) {
                // Three turns on a full CITY take the Oracle long: from two CORNERS that is enough.
                if (turns < 3 || a == 0 || a == 7) {
                    ask(names, asked, "game", a, turns);
                    ask(names, asked, "moveOf", a, turns);
                }
            }
        }
        gatherThings(names, asked);
        gatherTrays(names, asked);
    }

    private static void gatherThings(List<String> names, List<long[]> asked) {
        for (int a : THINGS) {
            for (String call : "goal best bestWages overIn becomes".split(" ")) {
                ask(names, asked, call, a);
            }
            for (int what = -1; what <= 5; what++) {
                ask(names, asked, "extra", a, what);
                ask(names, asked, "happening", a, what);
                ask(names, asked, "watcher", a, what);
            }
            for (int hours : HOURS) {
                ask(names, asked, "whereIn", a, hours);
                ask(names, asked, "wagesIn", a, hours);
                ask(names, asked, "warnedIn", a, hours);
            }
            for (int set : new int[] {0, 1, 2, 128, 255, 256, 64, 146, -1, LEAST, MOST}) {
                ask(names, asked, "attends", a, set);
            }
        }
    }

    private static void gatherTrays(List<String> names, List<long[]> asked) {
        for (int tray : TRAYS) {
            ask(names, asked, "explained", tray);
            ask(names, asked, "sure", tray);
            for (int n : new int[] {0, 1, 2, 3, 19, 20, 21, -1}) {
                ask(names, asked, "laws", tray, n);
                ask(names, asked, "lawFirst", tray, n);
            }
        }
        for (int tray : TRAYS) {
            ask(names, asked, "copyStanding", tray);
            ask(names, asked, "read", tray, 0);
            ask(names, asked, "read", tray, 7);
            ask(names, asked, "explained", tray);
        }
    }
}
