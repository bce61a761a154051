import java.math.BigInteger;
import java.util.ArrayDeque;
import java.util.ArrayList;
import java.util.Arrays;
import java.util.Deque;
import java.util.HashMap;
import java.util.HashSet;
import java.util.List;
import java.util.Map;
import java.util.Set;
import java.util.TreeSet;

/** The document once more, by brute force and with the whole library, to compare the class with. */
final class Oracle {
    static final Set<String> RESERVED = new HashSet<>(Arrays.asList(("wage delay odds corner road takes extra at "
        + "happening hour great watcher fears roster order put any when is stands over warned loop end stop").split(" ")));

    static final class Extra {
        int at, left, wages, stood;
        Set<Integer> roster = new TreeSet<>();
    }

    static final class Happening {
        int place, due, great, fate;
    }

    static final class Watcher {
        int post, fears, warned;
    }

    static final class Step {
        String word, test = "", sign = "";
        int a, b;
        List<Step> inner = new ArrayList<>();
    }

    static final class City {
        int wage = 1, delay = 2, odds = 1, hour, corners;
        List<int[]> roads = new ArrayList<>();
        List<Extra> extras = new ArrayList<>();
        List<Happening> happenings = new ArrayList<>();
        List<Watcher> watchers = new ArrayList<>();
        Map<String, String> names = new HashMap<>();
        List<Step> weeks;

        City copy() {
            City c = new City();
            c.wage = wage;
            c.delay = delay;
            c.odds = odds;
            c.hour = hour;
            c.corners = corners;
            c.roads = new ArrayList<>(roads);
            for (Extra e : extras) {
                Extra f = new Extra();
                f.at = e.at;
                f.left = e.left;
                f.wages = e.wages;
                f.stood = e.stood;
                f.roster = new TreeSet<>(e.roster);
                c.extras.add(f);
            }
            for (Happening h : happenings) {
                Happening i = new Happening();
                i.place = h.place;
                i.due = h.due;
                i.great = h.great;
                i.fate = h.fate;
                c.happenings.add(i);
            }
            for (Watcher w : watchers) {
                Watcher v = new Watcher();
                v.post = w.post;
                v.fears = w.fears;
                v.warned = w.warned;
                c.watchers.add(v);
            }
            c.names = new HashMap<>(names);
            c.weeks = weeks;
            return c;
        }

        int takes(int a, int b) {
            int best = 0;
            for (int[] r : roads) {
                if ((r[0] == a && r[1] == b || r[0] == b && r[1] == a) && (best == 0 || r[2] < best)) {
                    best = r[2];
                }
            }
            return best;
        }

        // Bellman and Ford's way, not that of the class.
        int far(int from, int to) {
            int[] d = new int[8];
            Arrays.fill(d, 1 << 20);
            d[from] = 0;
            for (int k = 0; k < 8; k++) {
                for (int[] r : roads) {
                    d[r[1]] = Math.min(d[r[1]], d[r[0]] + r[2]);
                    d[r[0]] = Math.min(d[r[0]], d[r[1]] + r[2]);
                }
            }
            return d[to] >= 1 << 20 ? -1 : d[to];
        }

        int way(int from, int to) {
            for (int n = 0; n < corners; n++) {
                int t = takes(from, n);
                if (t > 0 && far(n, to) >= 0 && far(n, to) + t == far(from, to)) {
                    return n;
                }
            }
            return -1;
        }

        int standing(int corner) {
            int set = 0;
            for (int i = 0; i < extras.size(); i++) {
                if (extras.get(i).left == 0 && extras.get(i).at == corner) {
                    set += 1 << i;
                }
            }
            return set;
        }

        int fates(int fate) {
            int set = 0;
            for (int i = 0; i < happenings.size(); i++) {
                if (happenings.get(i).fate == fate) {
                    set += 1 << i;
                }
            }
            return set;
        }

        int goal(int extra) {
            int best = -1;
            for (int h : extras.get(extra).roster) {
                Happening p = happenings.get(h);
                if (p.fate == 0 && (best < 0 || p.due < happenings.get(best).due)) {
                    best = h;
                }
            }
            return best;
        }

        void pass() {
            for (int i = 0; i < extras.size(); i++) {
                Extra e = extras.get(i);
                if (e.left > 0) {
                    e.left--;
                } else {
                    int g = goal(i);
                    if (g >= 0 && happenings.get(g).place != e.at) {
                        int w = way(e.at, happenings.get(g).place);
                        if (w >= 0) {
                            e.left = takes(e.at, w) - 1;
                            e.at = w;
                        }
                    }
                }
            }
            for (Happening h : happenings) {
                if (h.fate == 0 && h.due == hour) {
                    int set = standing(h.place);
                    if (Integer.bitCount(set) >= h.great) {
                        h.fate = 1;
                        for (int i = 0; i < extras.size(); i++) {
                            if ((set >> i & 1) == 1) {
                                extras.get(i).wages += wage * h.great;
                                extras.get(i).stood++;
                            }
                        }
                    } else {
                        h.fate = 2;
                    }
                }
            }
            for (Watcher w : watchers) {
                if (Integer.bitCount(standing(w.post)) >= w.fears) {
                    warn(w);
                }
            }
            hour++;
        }

        void warn(Watcher w) {
            w.warned++;
            Happening first = null;
            for (Happening h : happenings) {
                if (h.fate == 0 && h.place == w.post && (first == null || h.due < first.due)) {
                    first = h;
                }
            }
            if (first != null) {
                first.due = Math.min(9999, first.due + delay);
            }
        }

        City after(int hours) {
            City c = copy();
            for (int i = 0; i < hours; i++) {
                c.pass();
            }
            return c;
        }

        boolean attends(int extra, int set) {
            List<Integer> line = new ArrayList<>();
            for (int h = 0; h < happenings.size(); h++) {
                if ((set >> h & 1) == 1) {
                    line.add(h);
                }
            }
            line.sort((a, b) -> happenings.get(a).due - happenings.get(b).due);
            Extra e = extras.get(extra);
            int at = e.at;
            int free = hour + e.left;
            boolean first = true;
            int last = 0;
            for (int h : line) {
                Happening p = happenings.get(h);
                int d = far(at, p.place);
                if (d < 0 || d > (first ? p.due - free + 1 : p.due - last)) {
                    return false;
                }
                first = false;
                at = p.place;
                last = p.due;
            }
            return true;
        }

        int open() {
            int set = 0;
            for (int h = 0; h < happenings.size(); h++) {
                if (happenings.get(h).fate == 0 && happenings.get(h).due >= hour) {
                    set |= 1 << h;
                }
            }
            return set;
        }

        int wagesOf(int set) {
            int sum = 0;
            for (int h = 0; h < happenings.size(); h++) {
                sum += (set >> h & 1) * happenings.get(h).great * wage;
            }
            return sum;
        }

        int best(int extra) {
            int open = open();
            int best = 0;
            for (int set = 0; set < 256; set++) {
                if ((set & ~open) == 0 && attends(extra, set)) {
                    int d = wagesOf(set) - wagesOf(best);
                    if (d > 0 || d == 0 && Integer.bitCount(set) < Integer.bitCount(best)) {
                        best = set;
                    }
                }
            }
            return best;
        }

        int fewestSet() {
            int open = open();
            boolean[][] can = new boolean[extras.size()][256];
            for (int e = 0; e < extras.size(); e++) {
                for (int set = 0; set < 256; set++) {
                    can[e][set] = (set & ~open) == 0 && attends(e, set);
                }
            }
            boolean[][] covers = new boolean[1 << extras.size()][256];
            covers[0][0] = true;
            int best = -1;
            for (int team = 0; team < covers.length; team++) {
                if (team > 0) {
                    int e = 31 - Integer.numberOfLeadingZeros(team);
                    for (int set = 0; set < 256; set++) {
                        for (int more = 0; covers[team - (1 << e)][set] && more < 256; more++) {
                            covers[team][set | more] |= can[e][more];
                        }
                    }
                }
                if (covers[team][open] && (best < 0 || Integer.bitCount(team) < Integer.bitCount(best))) {
                    best = team;
                }
            }
            return best;
        }

        int cut(int a, int b) {
            int best = 99;
            for (int closed = 0; closed < 1 << roads.size(); closed++) {
                if (Integer.bitCount(closed) < best && !joined(a, b, closed)) {
                    best = Integer.bitCount(closed);
                }
            }
            return best;
        }

        private boolean joined(int a, int b, int closed) {
            int seen = 1 << a;
            for (int k = 0; k < 8; k++) {
                for (int r = 0; r < roads.size(); r++) {
                    int[] road = roads.get(r);
                    if ((closed >> r & 1) == 0 && ((seen >> road[0] & 1) == 1 || (seen >> road[1] & 1) == 1)) {
                        seen |= 1 << road[0] | 1 << road[1];
                    }
                }
            }
            return (seen >> b & 1) == 1;
        }

        int ruler(int corner, int turns, int done) {
            int best = 99;
            for (int n = 0; turns > 0 && n < corners; n++) {
                if (n == corner || takes(n, corner) > 0) {
                    best = Math.min(best, plotters(n, turns, done));
                }
            }
            return turns == 0 ? 0 : best;
        }

        int plotters(int corner, int turns, int done) {
            int best = ruler(corner, turns - 1, done);
            for (int h = 0; h < happenings.size(); h++) {
                Happening p = happenings.get(h);
                if ((done >> h & 1) == 0 && p.fate == 0) {
                    int now = p.place == corner ? 0 : p.great;
                    best = Math.max(best, now + ruler(corner, turns - 1, done | 1 << h));
                }
            }
            return best;
        }

        int wages() {
            int sum = 0;
            for (Extra e : extras) {
                sum += e.wages;
            }
            return sum;
        }

        int warned() {
            int sum = 0;
            for (Watcher w : watchers) {
                sum += w.warned;
            }
            return sum;
        }
    }

    /** A FAULT while a text is read. */
    static final class Fault extends RuntimeException {
        final int kind, place;

        Fault(int kind, int place) {
            this.kind = kind;
            this.place = place;
        }
    }

    /** Reads a text: every TOKEN is cut out when it is looked at. */
    static final class Text {
        final String text;
        int at;
        String token;
        int place;

        Text(String text) {
            this.text = text;
            next();
        }

        private int run(String signs) {
            int end = at;
            while (end < text.length() && signs.indexOf(text.charAt(end)) >= 0) {
                end++;
            }
            return end;
        }

        void next() {
            at = run("\n ");
            place = at;
            if (at == text.length()) {
                token = "";
                return;
            }
            int letters = run("abcdefghijklmnopqrstuvwxyz");
            int digits = run("0123456789");
            int end = Math.max(letters, digits);
            if (end == at && ";<>=".indexOf(text.charAt(at)) >= 0) {
                end = at + 1;
            }
            // A faulty one is told when it is looked at, which is never ahead of its turn.
            token = digits - at > 4 || end == at ? "?" : text.substring(at, end);
            at = end;
        }

        String look() {
            if (token.equals("?")) {
                throw new Fault(1, place);
            }
            return token;
        }

        void fail(int kind) {
            throw new Fault(kind, place);
        }

        void word(String wanted) {
            if (!look().equals(wanted)) {
                fail(2);
            }
            next();
        }

        int number(int least, int most) {
            if (!look().matches("[0-9]+")) {
                fail(2);
            }
            int n = Integer.parseInt(token);
            if (n < least || n > most) {
                fail(4);
            }
            next();
            return n;
        }

        String name() {
            if (!look().matches("[a-z]{1,8}") || RESERVED.contains(token)) {
                fail(2);
            }
            return token;
        }

        String fresh(Map<String, String> names) {
            String n = name();
            if (names.containsKey(n)) {
                fail(3);
            }
            next();
            return n;
        }

        int known(Map<String, String> names, char sort) {
            String n = name();
            if (!names.containsKey(n) || names.get(n).charAt(0) != sort) {
                fail(3);
            }
            return Integer.parseInt(names.get(n).substring(1));
        }

        int take(Map<String, String> names, char sort) {
            int n = known(names, sort);
            next();
            return n;
        }
    }

    static City readCity(String text) {
        City c = new City();
        Text t = new Text(text);
        Set<String> rules = new HashSet<>();
        while (!t.look().isEmpty()) {
            String word = t.token;
            switch (word) {
                case "wage":
                case "delay":
                case "odds":
                    if (!rules.add(word)) {
                        t.fail(5);
                    }
                    t.next();
                    if (word.equals("wage")) {
                        c.wage = t.number(0, 99);
                    } else if (word.equals("delay")) {
                        c.delay = t.number(1, 24);
                    } else {
                        c.odds = t.number(0, 16);
                    }
                    break;
                case "corner":
                    if (c.corners == 8) {
                        t.fail(6);
                    }
                    t.next();
                    c.names.put(t.fresh(c.names), "c" + c.corners);
                    c.corners++;
                    break;
                case "road":
                    if (c.roads.size() == 12) {
                        t.fail(6);
                    }
                    t.next();
                    int a = t.take(c.names, 'c');
                    int b = t.known(c.names, 'c');
                    if (a == b) {
                        t.fail(5);
                    }
                    t.next();
                    t.word("takes");
                    c.roads.add(new int[] {a, b, t.number(1, 9)});
                    break;
                case "extra":
                    if (c.extras.size() == 7) {
                        t.fail(6);
                    }
                    t.next();
                    String en = t.fresh(c.names);
                    Extra e = new Extra();
                    t.word("at");
                    e.at = t.take(c.names, 'c');
                    c.names.put(en, "e" + c.extras.size());
                    c.extras.add(e);
                    break;
                case "happening":
                    if (c.happenings.size() == 8) {
                        t.fail(6);
                    }
                    t.next();
                    String hn = t.fresh(c.names);
                    Happening h = new Happening();
                    t.word("at");
                    h.place = t.take(c.names, 'c');
                    t.word("hour");
                    h.due = t.number(0, 999);
                    t.word("great");
                    h.great = t.number(1, 4);
                    c.names.put(hn, "h" + c.happenings.size());
                    c.happenings.add(h);
                    break;
                case "watcher":
                    if (c.watchers.size() == 4) {
                        t.fail(6);
                    }
                    t.next();
                    String wn = t.fresh(c.names);
                    Watcher w = new Watcher();
                    t.word("at");
                    w.post = t.take(c.names, 'c');
                    t.word("fears");
                    w.fears = t.number(1, 7);
                    c.names.put(wn, "w" + c.watchers.size());
                    c.watchers.add(w);
                    break;
                case "roster":
                    t.next();
                    int extra = t.take(c.names, 'e');
                    Set<Integer> set = new TreeSet<>();
                    while (!t.look().equals(";")) {
                        if (!set.add(t.known(c.names, 'h'))) {
                            t.fail(5);
                        }
                        t.next();
                    }
                    c.extras.get(extra).roster = set;
                    break;
                default:
                    t.fail(2);
            }
            t.word(";");
        }
        return c;
    }

    private int stepsRead;

    List<Step> readWeeks(String text, Map<String, String> names) {
        Text t = new Text(text);
        stepsRead = 0;
        List<Step> steps = readSteps(t, names, 0);
        if (!t.look().isEmpty()) {
            t.fail(2);
        }
        return steps;
    }

    private List<Step> readSteps(Text t, Map<String, String> names, int depth) {
        List<Step> steps = new ArrayList<>();
        while (!t.look().isEmpty() && !t.token.equals("end")) {
            Step s = new Step();
            s.word = t.token;
            if (!Arrays.asList("hour", "order", "put", "any", "when", "loop", "stop").contains(s.word)) {
                t.fail(2);
            }
            if (++stepsRead > 30) {
                t.fail(6);
            }
            boolean opens = s.word.equals("when") || s.word.equals("loop");
            if (opens && depth == 3) {
                t.fail(7);
            }
            t.next();
            readRest(t, s, names);
            t.word(";");
            if (opens) {
                s.inner = readSteps(t, names, depth + 1);
                t.word("end");
                t.word(";");
            }
            steps.add(s);
        }
        return steps;
    }

    private void readRest(Text t, Step s, Map<String, String> names) {
        if (s.word.equals("hour")) {
            s.a = t.number(1, 48);
        } else if (s.word.equals("order")) {
            s.a = t.take(names, 'e');
            s.b = t.take(names, 'h');
        } else if (s.word.equals("put")) {
            s.a = t.take(names, 'h');
            s.b = t.number(1, 99);
        } else if (s.word.equals("loop")) {
            s.a = t.number(1, 99);
        } else if (s.word.equals("when")) {
            s.test = t.look();
            if (!Arrays.asList("is", "stands", "over", "warned").contains(s.test)) {
                t.fail(2);
            }
            t.next();
            if (s.test.equals("is")) {
                s.a = t.take(names, 'h');
                s.b = t.number(0, 2);
            } else if (s.test.equals("stands")) {
                s.a = t.take(names, 'e');
                s.b = t.take(names, 'c');
            } else if (s.test.equals("over")) {
                s.a = t.take(names, 'h');
            } else {
                s.a = t.take(names, 'w');
                s.sign = t.look();
                if (!s.sign.matches("[<>=]")) {
                    t.fail(2);
                }
                t.next();
                s.b = t.number(0, 9999);
            }
        }
    }

    /** WEEKS gone through by recursion. */
    static final class Run {
        final City c;
        long s;
        int steps, missed, left;
        boolean stopped;

        Run(City c, int seed) {
            this.c = c;
            s = seed;
        }

        void all(List<Step> list) {
            for (Step st : list) {
                if (stopped) {
                    return;
                }
                if (steps == 300) {
                    left = 1;
                    stopped = true;
                    return;
                }
                steps++;
                one(st);
            }
        }

        void one(Step st) {
            switch (st.word) {
                case "hour":
                    if (c.hour + st.a > 9999) {
                        missed++;
                    } else {
                        for (int i = 0; i < st.a; i++) {
                            c.pass();
                        }
                    }
                    break;
                case "order":
                    if (!c.extras.get(st.a).roster.remove(st.b)) {
                        c.extras.get(st.a).roster.add(st.b);
                    }
                    break;
                case "put":
                    Happening h = c.happenings.get(st.a);
                    if (h.fate != 0 || h.due + st.b > 9999) {
                        missed++;
                    } else {
                        h.due += st.b;
                    }
                    break;
                case "any":
                    any();
                    break;
                case "when":
                    if (test(st)) {
                        all(st.inner);
                    }
                    break;
                case "loop":
                    for (int i = 0; i < st.a; i++) {
                        all(st.inner);
                    }
                    break;
                default:
                    stopped = true;
            }
        }

        void any() {
            if (c.extras.isEmpty()) {
                missed++;
                return;
            }
            s = (s * 3121 + 11351) % 65536;
            Extra e = c.extras.get((int) (s / 8 % c.extras.size()));
            if (e.left > 0) {
                missed++;
                return;
            }
            for (Watcher w : c.watchers) {
                if (w.post == e.at) {
                    c.warn(w);
                }
            }
        }

        boolean test(Step st) {
            switch (st.test) {
                case "is":
                    return c.happenings.get(st.a).fate == st.b;
                case "stands":
                    return c.extras.get(st.a).left == 0 && c.extras.get(st.a).at == st.b;
                case "over":
                    return c.happenings.get(st.a).fate != 0;
                default:
                    int w = c.watchers.get(st.a).warned;
                    return st.sign.equals("<") ? w < st.b : st.sign.equals(">") ? w > st.b : w == st.b;
            }
        }
    }

    // ---- the face, by call names

    City city = new City();
    Deque<City> marks = new ArrayDeque<>();
    StringBuilder tape = new StringBuilder();
    long[][] trays = new long[4][];
    int[] sorts = new int[4];
    int status;
    long top, bottom = 1;
    int fault = -1, faultPlace = -1;
    int[] lived;

    private long no(int why) {
        status = why;
        return -1;
    }

    private long yes(long value) {
        status = 0;
        return value;
    }

    private static boolean in(long n, long low, long high) {
        return n >= low && n <= high;
    }

    private boolean corner(long n) {
        return in(n, 0, city.corners - 1);
    }

    private boolean isExtra(long n) {
        return in(n, 0, city.extras.size() - 1);
    }

    private boolean isHappening(long n) {
        return in(n, 0, city.happenings.size() - 1);
    }

    private boolean isWatcher(long n) {
        return in(n, 0, city.watchers.size() - 1);
    }

    private static int where(City c, int e) {
        return c.extras.get(e).left > 0 ? 10 + c.extras.get(e).at : c.extras.get(e).at;
    }

    private void fraction(long a, long b) {
        BigInteger g = BigInteger.valueOf(a).gcd(BigInteger.valueOf(b));
        top = a / g.longValue();
        bottom = b / g.longValue();
    }

    /** What a call answers; false is -1 here, as NONE is. */
    long ask(String call, long... p) {
        int[] i = new int[p.length];
        for (int k = 0; k < p.length; k++) {
            i[k] = (int) p[k];
        }
        switch (call) {
            case "status": return status;
            case "top": return top;
            case "bottom": return bottom;
            case "feed": return feed(i);
            case "fault": return fault < 0 ? -1 : i[0] == 0 ? fault : i[0] == 1 ? faultPlace : -1;
            case "city":
            case "weeks": return text(call, i[0]);
            case "tray":
            case "write":
            case "read":
            case "pour": return onTrays(call, i, p);
            case "told":
            case "extra":
            case "happening":
            case "watcher":
            case "standing":
            case "road": return tells(call, i);
            case "hour":
            case "order":
            case "put":
            case "raise":
            case "plan":
            case "bear":
            case "post":
            case "scare":
            case "rule": return does(call, i);
            case "far":
            case "way":
            case "centre":
            case "cut":
            case "goal": return ways(call, i);
            case "whereIn":
            case "standingIn":
            case "overIn":
            case "becomes":
            case "wagesIn":
            case "warnedIn": return aheads(call, i);
            case "attends":
            case "best":
            case "bestWages":
            case "fewest":
            case "fewestSet": return rosters(call, i);
            case "explained":
            case "sure": return explains(call, i[0]);
            case "laws":
            case "lawFirst": return lawsOf(call, i[0], i[1]);
            case "guard":
            case "guardLeft":
            case "game":
            case "moveOf":
            case "falls":
            case "copyStanding": return rules(call, i);
            default: return lives(call, i);
        }
    }

    private long feed(int[] i) {
        if (tape.length() + 20 > 900) {
            return -1;
        }
        for (int v : i) {
            for (int shift = 24; shift >= 0; shift -= 8) {
                tape.append((char) (v >> shift & 255));
            }
        }
        return tape.length();
    }

    private long text(String call, int n) {
        if (n < 0 || n > tape.length() || call.equals("weeks") && n > 300) {
            return no(1);
        }
        String text = tape.substring(0, n);
        tape.setLength(0);
        fault = 0;
        faultPlace = -1;
        try {
            if (call.equals("city")) {
                city = readCity(text);
                return yes(city.corners);
            }
            city.weeks = readWeeks(text, city.names);
            return yes(stepsRead);
        } catch (Fault f) {
            fault = f.kind;
            faultPlace = f.place;
            return no(9);
        }
    }

    private static long cut(long v, int sort) {
        int away = 64 - (8 << sort);
        return v << away >> away;
    }

    private long onTrays(String call, int[] i, long[] p) {
        if (call.equals("tray")) {
            if (!in(i[0], 0, 3) || !in(i[1], 0, 3) || !in(i[2], 0, 60)) {
                return no(1);
            }
            trays[i[0]] = new long[i[2]];
            sorts[i[0]] = i[1];
            return yes(1);
        }
        if (call.equals("pour")) {
            if (!in(i[0], 0, 3) || !in(i[2], 0, 3) || i[1] < 0 || i[3] < 0 || i[4] < 0) {
                return no(1);
            }
            long[] a = trays[i[0]];
            long[] b = trays[i[2]];
            if (a == null || b == null) {
                return no(2);
            }
            if (sorts[i[0]] != sorts[i[2]]) {
                return no(8);
            }
            if (p[1] + p[4] > a.length || p[3] + p[4] > b.length) {
                return no(3);
            }
            long[] kept = a.clone();
            for (int k = 0; k < i[4]; k++) {
                b[i[3] + k] = kept[i[1] + k];
            }
            return yes(1);
        }
        if (!in(i[0], 0, 3)) {
            return no(1);
        }
        long[] row = trays[i[0]];
        if (row == null) {
            return no(2);
        }
        if (!in(i[1], 0, row.length - 1)) {
            return no(3);
        }
        if (call.equals("read")) {
            return yes(row[i[1]]);
        }
        row[i[1]] = cut(p[2], sorts[i[0]]);
        return yes(1);
    }

    private long tells(String call, int[] i) {
        int a = i[0];
        switch (call) {
            case "told":
                int roads = 0;
                for (int e = 0; e < city.extras.size(); e++) {
                    roads += city.extras.get(e).left > 0 ? 1 << e : 0;
                }
                int[] all = {city.corners, city.roads.size(), city.extras.size(), city.happenings.size(),
                    city.watchers.size(), city.wage, city.delay, city.odds, city.hour, city.fates(0), city.fates(1),
                    city.fates(2), roads, city.wages()};
                return in(a, 0, 13) ? yes(all[a]) : no(1);
            case "extra":
                if (!isExtra(a) || !in(i[1], 0, 4)) {
                    return no(1);
                }
                Extra e = city.extras.get(a);
                int roster = 0;
                for (int h : e.roster) {
                    roster |= 1 << h;
                }
                return yes(new int[] {where(city, a), e.left, roster, e.wages, e.stood}[i[1]]);
            case "happening":
                if (!isHappening(a) || !in(i[1], 0, 4)) {
                    return no(1);
                }
                Happening h = city.happenings.get(a);
                return yes(new int[] {h.place, h.due, h.great, h.fate,
                    Integer.bitCount(city.standing(h.place))}[i[1]]);
            case "watcher":
                if (!isWatcher(a) || !in(i[1], 0, 2)) {
                    return no(1);
                }
                Watcher w = city.watchers.get(a);
                return yes(new int[] {w.post, w.fears, w.warned}[i[1]]);
            case "standing":
                return corner(a) ? yes(city.standing(a)) : no(1);
            default:
                if (!corner(a) || !corner(i[1]) || a == i[1]) {
                    return no(1);
                }
                return city.takes(a, i[1]) == 0 ? no(6) : yes(city.takes(a, i[1]));
        }
    }

    private long does(String call, int[] i) {
        switch (call) {
            case "hour":
                if (!in(i[0], 1, 99)) {
                    return no(1);
                }
                if (city.hour + i[0] > 9999) {
                    return no(4);
                }
                int sooner = Integer.bitCount(city.fates(1));
                for (int k = 0; k < i[0]; k++) {
                    city.pass();
                }
                return yes(Integer.bitCount(city.fates(1)) - sooner);
            case "order":
                if (!isExtra(i[0]) || !isHappening(i[1])) {
                    return no(1);
                }
                Set<Integer> roster = city.extras.get(i[0]).roster;
                boolean changed = i[2] == 1 ? roster.add(i[1]) : roster.remove(i[1]);
                return changed ? yes(1) : no(7);
            case "put":
                if (!isHappening(i[0]) || !in(i[1], 1, 99)) {
                    return no(1);
                }
                Happening h = city.happenings.get(i[0]);
                if (h.fate != 0 || h.due + i[1] > 9999) {
                    return no(7);
                }
                h.due += i[1];
                return yes(h.due);
            case "raise":
                if (!isHappening(i[0]) || !in(i[1], 1, 4)) {
                    return no(1);
                }
                if (city.happenings.get(i[0]).fate != 0) {
                    return no(7);
                }
                city.happenings.get(i[0]).great = i[1];
                return yes(1);
            case "plan":
                if (!corner(i[0]) || !in(i[1], 0, 999) || !in(i[2], 1, 4)) {
                    return no(1);
                }
                if (city.happenings.size() == 8) {
                    return no(4);
                }
                Happening p = new Happening();
                p.place = i[0];
                p.due = i[1];
                p.great = i[2];
                city.happenings.add(p);
                return yes(city.happenings.size() - 1);
            case "bear":
                if (!corner(i[0])) {
                    return no(1);
                }
                if (city.extras.size() == 7) {
                    return no(4);
                }
                Extra e = new Extra();
                e.at = i[0];
                city.extras.add(e);
                return yes(city.extras.size() - 1);
            case "post":
                if (!isWatcher(i[0]) || !corner(i[1])) {
                    return no(1);
                }
                if (city.watchers.get(i[0]).post == i[1]) {
                    return no(7);
                }
                city.watchers.get(i[0]).post = i[1];
                return yes(1);
            case "scare":
                if (!isWatcher(i[0]) || !in(i[1], 1, 7)) {
                    return no(1);
                }
                city.watchers.get(i[0]).fears = i[1];
                return yes(1);
            default:
                if (i[0] == 5 && in(i[1], 0, 99)) {
                    city.wage = i[1];
                } else if (i[0] == 6 && in(i[1], 1, 24)) {
                    city.delay = i[1];
                } else if (i[0] == 7 && in(i[1], 0, 16)) {
                    city.odds = i[1];
                } else {
                    return no(1);
                }
                return yes(1);
        }
    }

    private long ways(String call, int[] i) {
        if (call.equals("centre")) {
            int best = -1;
            int least = 0;
            for (int a = 0; a < city.corners; a++) {
                int sum = 0;
                for (int b = 0; b < city.corners && sum >= 0; b++) {
                    sum = city.far(a, b) < 0 ? -1 : sum + city.far(a, b);
                }
                if (sum >= 0 && (best < 0 || sum < least)) {
                    best = a;
                    least = sum;
                }
            }
            return best < 0 ? no(6) : yes(best);
        }
        if (call.equals("goal")) {
            return !isExtra(i[0]) ? no(1) : city.goal(i[0]) < 0 ? no(6) : yes(city.goal(i[0]));
        }
        if (!corner(i[0]) || !corner(i[1])) {
            return no(1);
        }
        if (call.equals("far")) {
            return city.far(i[0], i[1]) < 0 ? no(6) : yes(city.far(i[0], i[1]));
        }
        if (i[0] == i[1]) {
            return no(7);
        }
        if (call.equals("cut")) {
            return yes(city.cut(i[0], i[1]));
        }
        return city.way(i[0], i[1]) < 0 ? no(6) : yes(city.way(i[0], i[1]));
    }

    private long aheads(String call, int[] i) {
        if (call.equals("overIn") || call.equals("becomes")) {
            if (!isHappening(i[0])) {
                return no(1);
            }
            City c = city.copy();
            for (int k = 0; k <= 300; k++) {
                if (c.happenings.get(i[0]).fate != 0) {
                    return yes(call.equals("overIn") ? k : c.happenings.get(i[0]).fate);
                }
                c.pass();
            }
            return no(6);
        }
        boolean is = call.equals("standingIn") ? corner(i[0]) : call.equals("warnedIn") ? isWatcher(i[0]) : isExtra(i[0]);
        if (!is || !in(i[1], 0, 300)) {
            return no(1);
        }
        City c = city.after(i[1]);
        switch (call) {
            case "whereIn": return yes(where(c, i[0]));
            case "standingIn": return yes(c.standing(i[0]));
            case "wagesIn": return yes(c.extras.get(i[0]).wages);
            default: return yes(c.watchers.get(i[0]).warned);
        }
    }

    private long rosters(String call, int[] i) {
        if (call.startsWith("fewest")) {
            int set = city.fewestSet();
            return set < 0 ? no(6) : yes(call.equals("fewest") ? Integer.bitCount(set) : set);
        }
        if (!isExtra(i[0])) {
            return no(1);
        }
        if (call.equals("attends")) {
            if (!in(i[1], 0, (1 << city.happenings.size()) - 1)) {
                return no(1);
            }
            if ((i[1] & ~city.open()) != 0) {
                return no(7);
            }
            return yes(city.attends(i[0], i[1]) ? 1 : 0);
        }
        int best = city.best(i[0]);
        return yes(call.equals("best") ? best : city.wagesOf(best));
    }

    private int trayStatus(int tray, int many) {
        if (!in(tray, 0, 3)) {
            return 1;
        }
        if (trays[tray] == null) {
            return 2;
        }
        return trays[tray].length < many ? 3 : 0;
    }

    private long explains(String call, int tray) {
        int wrong = trayStatus(tray, city.corners);
        if (wrong != 0) {
            return no(wrong);
        }
        for (int c = 0; c < city.corners; c++) {
            if (!in(trays[tray][c], 0, 99)) {
                return no(5);
            }
        }
        int many = 0;
        int common = 255;
        for (int set = 0; set < 256; set++) {
            if ((set & ~city.fates(0)) != 0) {
                continue;
            }
            int[] sums = new int[8];
            for (int h = 0; h < city.happenings.size(); h++) {
                sums[city.happenings.get(h).place] += (set >> h & 1) * city.happenings.get(h).great;
            }
            boolean fits = true;
            for (int c = 0; c < city.corners; c++) {
                fits &= sums[c] == trays[tray][c];
            }
            if (fits) {
                many++;
                common &= set;
            }
        }
        if (call.equals("explained")) {
            return yes(many);
        }
        return many == 0 ? no(6) : yes(common);
    }

    private long lawsOf(String call, int tray, int n) {
        if (!in(n, 0, 20)) {
            return no(1);
        }
        int wrong = trayStatus(tray, 3 * n);
        if (wrong != 0) {
            return no(wrong);
        }
        long[] t = trays[tray];
        for (int k = 0; k < n; k++) {
            if (!in(t[3 * k], 1, 4) || !in(t[3 * k + 1], 0, 99) || !in(t[3 * k + 2], 0, 1)) {
                return no(5);
            }
        }
        int many = 0;
        int first = 0;
        for (int a = 9; a >= 1; a--) {
            for (int b = 9; b >= 1; b--) {
                boolean fits = true;
                for (int k = 0; k < n; k++) {
                    long enough = (t[3 * k] * a + b - 1) / b;
                    fits &= (t[3 * k + 1] >= enough ? 1 : 0) == t[3 * k + 2];
                }
                if (fits) {
                    many++;
                    first = 10 * a + b;
                }
            }
        }
        if (call.equals("laws")) {
            return yes(many);
        }
        return many == 0 ? no(6) : yes(first);
    }

    private long rules(String call, int[] i) {
        switch (call) {
            case "guard":
            case "guardLeft":
                int best = -1;
                int least = 99;
                for (int c = 0; c < city.corners; c++) {
                    int most = 0;
                    for (Happening h : city.happenings) {
                        most = h.fate == 0 && h.place != c ? Math.max(most, h.great) : most;
                    }
                    if (most < least) {
                        best = c;
                        least = most;
                    }
                }
                return best < 0 ? no(6) : yes(call.equals("guard") ? best : least);
            case "game":
                return corner(i[0]) && in(i[1], 0, 3) ? yes(city.ruler(i[0], i[1], 0)) : no(1);
            case "moveOf":
                if (!corner(i[0]) || !in(i[1], 1, 3)) {
                    return no(1);
                }
                int worth = city.ruler(i[0], i[1], 0);
                for (int c = 0; ; c++) {
                    if ((c == i[0] || city.takes(c, i[0]) > 0) && city.plotters(c, i[1], 0) == worth) {
                        return yes(c);
                    }
                }
            case "falls":
                return fallsOf(i[0]);
            default:
                int wrong = trayStatus(i[0], city.corners);
                if (wrong != 0) {
                    return no(wrong);
                }
                for (int c = 0; c < city.corners; c++) {
                    trays[i[0]][c] = Integer.bitCount(city.standing(c));
                }
                return yes(city.corners);
        }
    }

    private long fallsOf(int k) {
        if (!in(k, 0, 7)) {
            return no(1);
        }
        int n = 0;
        for (Extra e : city.extras) {
            n += e.left == 0 ? 1 : 0;
        }
        long hits = 0;
        for (int set = 0; set < 1 << n; set++) {
            if (Integer.bitCount(set) >= k) {
                long product = 1;
                for (int e = 0; e < n; e++) {
                    product *= (set >> e & 1) == 1 ? city.odds : 16 - city.odds;
                }
                hits += product;
            }
        }
        fraction(hits, 1L << 4 * n);
        return yes(1);
    }

    private long lives(String call, int[] i) {
        switch (call) {
            case "live":
                if (!in(i[0], 0, 9999)) {
                    return no(1);
                }
                if (city.weeks == null) {
                    return no(6);
                }
                int hour = city.hour;
                int happened = Integer.bitCount(city.fates(1));
                int warned = city.warned();
                Run run = new Run(city, i[0]);
                run.all(city.weeks);
                lived = new int[] {run.missed, city.hour - hour, Integer.bitCount(city.fates(1)) - happened,
                    city.warned() - warned, run.left};
                return yes(run.steps);
            case "lived":
                return !in(i[0], 0, 4) ? no(1) : lived == null ? no(6) : yes(lived[i[0]]);
            case "mean":
                if (!in(i[0], 0, 9999) || !in(i[1], 1, 20) || i[0] + i[1] > 10000) {
                    return no(1);
                }
                if (city.weeks == null) {
                    return no(6);
                }
                long sum = 0;
                for (int s = i[0]; s < i[0] + i[1]; s++) {
                    City c = city.copy();
                    new Run(c, s).all(city.weeks);
                    sum += c.wages();
                }
                fraction(sum, i[1]);
                return yes(1);
            case "mark":
                if (marks.size() == 3) {
                    return no(4);
                }
                marks.push(city.copy());
                return yes(marks.size());
            case "undo":
                if (marks.isEmpty()) {
                    return no(6);
                }
                city = marks.pop();
                return yes(marks.size());
            default:
                throw new IllegalArgumentException(call);
        }
    }
}
