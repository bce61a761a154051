/** A city with a caste that crosses behind whatever happens. */
public final class ExtraCaste {
    public static final int NONE = -1;

    private static final int FINE = 0;
    private static final int WRONG_NUMBER = 1;
    private static final int MISSING_TRAY = 2;
    private static final int NO_PLACE = 3;
    private static final int ONE_TOO_MANY = 4;
    private static final int WRONG_IN_TRAY = 5;
    private static final int NONE_SUCH = 6;
    private static final int CANNOT_BE = 7;
    private static final int UNLIKE_SORTS = 8;
    private static final int FAULTY = 9;

    private static final int MOST_MARKS = 3;
    private static final int MOST_WEEKS_BYTES = 300;
    private static final int MOST_HOURS_AHEAD = 300;
    private static final int LAST_SEED = 9999;

    private final City city = new City();
    private final City ahead = new City();
    private final City[] marks = new City[MOST_MARKS];
    private int marked;
    private final Tokens tape = new Tokens();
    private final CityReader cityReader = new CityReader(tape);
    private final WeeksReader weeksReader = new WeeksReader(tape);
    private final Trays trays = new Trays();
    private final Planner planner = new Planner();
    private final Ruler ruler = new Ruler();
    private final Life life = new Life();
    private final int[] latestLife = new int[Life.TOLD];
    private boolean wasLived;
    private boolean wasParsed;
    private int faultKind;
    private int faultPlace = NONE;
    private int latestStatus;
    private long fractionTop;
    private long fractionBottom = 1;

    public ExtraCaste() {
        for (int i = 0; i < marks.length; i++) {
            marks[i] = new City();
        }
    }

    public int status() {
        return latestStatus;
    }

    public long top() {
        return fractionTop;
    }

    public long bottom() {
        return fractionBottom;
    }

    // ---- TRAYS

    public boolean tray(int tray, int sort, int many) {
        if (!trays.isTray(tray) || !within(sort, 0, 3) || !within(many, 0, Trays.MOST)) {
            return refused(WRONG_NUMBER);
        }
        trays.lay(tray, sort, many);
        return accepted();
    }

    public boolean write(int tray, int place, long v) {
        int wrong = placeStatus(tray, place);
        if (wrong != FINE) {
            return refused(wrong);
        }
        trays.set(tray, place, v);
        return accepted();
    }

    public long read(int tray, int place) {
        int wrong = placeStatus(tray, place);
        if (wrong != FINE) {
            return none(wrong);
        }
        latestStatus = FINE;
        return trays.get(tray, place);
    }

    public boolean pour(int from, int place, int to, int at, int many) {
        if (!trays.isTray(from) || !trays.isTray(to) || place < 0 || at < 0 || many < 0) {
            return refused(WRONG_NUMBER);
        }
        if (trays.isMissing(from) || trays.isMissing(to)) {
            return refused(MISSING_TRAY);
        }
        if (trays.sortOf(from) != trays.sortOf(to)) {
            return refused(UNLIKE_SORTS);
        }
        if (!trays.hasRange(from, place, many) || !trays.hasRange(to, at, many)) {
            return refused(NO_PLACE);
        }
        trays.move(from, place, to, at, many);
        return accepted();
    }

    // ---- texts

    public int feed(int a, int b, int c, int d, int e) {
        if (!tape.hasRoomFor(20)) {
            return NONE;
        }
        tape.append(a);
        tape.append(b);
        tape.append(c);
        tape.append(d);
        tape.append(e);
        return tape.held;
    }

    public int city(int n) {
        if (!within(n, 0, tape.held)) {
            return none(WRONG_NUMBER);
        }
        boolean taken = cityReader.parse(n);
        keepFault();
        if (!taken) {
            return none(FAULTY);
        }
        city.copyFrom(cityReader.draft);
        return answer(city.streets.corners);
    }

    public int weeks(int n) {
        if (!within(n, 0, tape.held) || n > MOST_WEEKS_BYTES) {
            return none(WRONG_NUMBER);
        }
        boolean taken = weeksReader.parse(n, city.names);
        keepFault();
        if (!taken) {
            return none(FAULTY);
        }
        city.weeks.copyFrom(weeksReader.steps);
        city.hasWeeks = true;
        return answer(city.weeks.many);
    }

    public int fault(int what) {
        if (!wasParsed) {
            return NONE;
        }
        if (what == 0) {
            return faultKind;
        }
        return what == 1 ? faultPlace : NONE;
    }

    public int told(int what) {
        switch (what) {
            case 0: return answer(city.streets.corners);
            case 1: return answer(city.streets.roads.many);
            case 2: return answer(city.extras.many);
            case 3: return answer(city.happenings.many);
            case 4: return answer(city.watchers.many);
            case 5: return answer(city.wage);
            case 6: return answer(city.delay);
            case 7: return answer(city.odds);
            case 8: return answer(city.clock);
            case 9: return answer(city.withFate(City.TO_COME));
            case 10: return answer(city.withFate(City.HAPPENED));
            case 11: return answer(city.withFate(City.FAILED));
            case 12: return answer(city.onRoads());
            case 13: return answer(city.extras.sum(City.WAGES));
            default: return none(WRONG_NUMBER);
        }
    }

    public int extra(int extra, int what) {
        if (!isExtra(extra) || !within(what, 0, 4)) {
            return none(WRONG_NUMBER);
        }
        return answer(what == 0 ? city.whereabouts(extra) : city.extras.get(extra, what));
    }

    public int happening(int happening, int what) {
        if (!isHappening(happening) || !within(what, 0, 4)) {
            return none(WRONG_NUMBER);
        }
        if (what == 4) {
            return answer(Integer.bitCount(city.behind(city.happenings.get(happening, City.PLACE))));
        }
        return answer(city.happenings.get(happening, what));
    }

    public int watcher(int watcher, int what) {
        if (!isWatcher(watcher) || !within(what, 0, 2)) {
            return none(WRONG_NUMBER);
        }
        return answer(city.watchers.get(watcher, what));
    }

    public int standing(int corner) {
        if (!isCorner(corner)) {
            return none(WRONG_NUMBER);
        }
        return answer(city.behind(corner));
    }

    public int road(int corner, int other) {
        if (!isCorner(corner) || !isCorner(other) || corner == other) {
            return none(WRONG_NUMBER);
        }
        int takes = city.streets.takesBetween(corner, other);
        return takes == 0 ? none(NONE_SUCH) : answer(takes);
    }

    // ---- what is done

    public int hour(int many) {
        if (!within(many, 1, 99)) {
            return none(WRONG_NUMBER);
        }
        if (!city.canPass(many)) {
            return none(ONE_TOO_MANY);
        }
        int sooner = Integer.bitCount(city.withFate(City.HAPPENED));
        city.passHours(many);
        return answer(Integer.bitCount(city.withFate(City.HAPPENED)) - sooner);
    }

    public boolean order(int extra, int happening, boolean is) {
        if (!isExtra(extra) || !isHappening(happening)) {
            return refused(WRONG_NUMBER);
        }
        if (is == city.isOrdered(extra, happening)) {
            return refused(CANNOT_BE);
        }
        city.turnOrder(extra, happening);
        return accepted();
    }

    public int put(int happening, int hours) {
        if (!isHappening(happening) || !within(hours, 1, 99)) {
            return none(WRONG_NUMBER);
        }
        if (!city.putOff(happening, hours)) {
            return none(CANNOT_BE);
        }
        return answer(city.happenings.get(happening, City.DUE));
    }

    public boolean raise(int happening, int great) {
        if (!isHappening(happening) || !within(great, 1, City.GREATEST)) {
            return refused(WRONG_NUMBER);
        }
        if (!city.isToCome(happening)) {
            return refused(CANNOT_BE);
        }
        city.happenings.set(happening, City.GREAT, great);
        return accepted();
    }

    public int plan(int corner, int hour, int great) {
        if (!isCorner(corner) || !within(hour, 0, City.LAST_TOLD_HOUR) || !within(great, 1, City.GREATEST)) {
            return none(WRONG_NUMBER);
        }
        if (city.happenings.isFull()) {
            return none(ONE_TOO_MANY);
        }
        return answer(city.addHappening(corner, hour, great));
    }

    public int bear(int corner) {
        if (!isCorner(corner)) {
            return none(WRONG_NUMBER);
        }
        if (city.extras.isFull()) {
            return none(ONE_TOO_MANY);
        }
        return answer(city.addExtra(corner));
    }

    public boolean post(int watcher, int corner) {
        if (!isWatcher(watcher) || !isCorner(corner)) {
            return refused(WRONG_NUMBER);
        }
        if (city.watchers.get(watcher, City.POST) == corner) {
            return refused(CANNOT_BE);
        }
        city.watchers.set(watcher, City.POST, corner);
        return accepted();
    }

    public boolean scare(int watcher, int fears) {
        if (!isWatcher(watcher) || !within(fears, 1, City.MOST_FEARS)) {
            return refused(WRONG_NUMBER);
        }
        city.watchers.set(watcher, City.FEARS, fears);
        return accepted();
    }

    public boolean rule(int what, int much) {
        if (what == 5 && within(much, 0, City.MOST_WAGE)) {
            city.wage = much;
            return accepted();
        }
        if (what == 6 && within(much, 1, City.MOST_DELAY)) {
            city.delay = much;
            return accepted();
        }
        if (what == 7 && within(much, 0, City.MOST_ODDS)) {
            city.odds = much;
            return accepted();
        }
        return refused(WRONG_NUMBER);
    }

    // ---- ways

    public int far(int corner, int other) {
        if (!isCorner(corner) || !isCorner(other)) {
            return none(WRONG_NUMBER);
        }
        int hours = city.streets.hoursBetween(corner, other);
        return hours == NONE ? none(NONE_SUCH) : answer(hours);
    }

    public int way(int corner, int other) {
        if (!isCorner(corner) || !isCorner(other)) {
            return none(WRONG_NUMBER);
        }
        if (corner == other) {
            return none(CANNOT_BE);
        }
        int first = city.streets.firstCorner(corner, other);
        return first == NONE ? none(NONE_SUCH) : answer(first);
    }

    public int centre() {
        int middle = city.streets.middle();
        return middle == NONE ? none(NONE_SUCH) : answer(middle);
    }

    public int cut(int corner, int other) {
        if (!isCorner(corner) || !isCorner(other)) {
            return none(WRONG_NUMBER);
        }
        if (corner == other) {
            return none(CANNOT_BE);
        }
        return answer(city.streets.fewestClosed(corner, other));
    }

    // ---- what will be

    public int goal(int extra) {
        if (!isExtra(extra)) {
            return none(WRONG_NUMBER);
        }
        int happening = city.goalOf(extra);
        return happening == NONE ? none(NONE_SUCH) : answer(happening);
    }

    public int whereIn(int extra, int hours) {
        if (!isExtra(extra) || !isAhead(hours)) {
            return none(WRONG_NUMBER);
        }
        lookAhead(hours);
        return answer(ahead.whereabouts(extra));
    }

    public int standingIn(int corner, int hours) {
        if (!isCorner(corner) || !isAhead(hours)) {
            return none(WRONG_NUMBER);
        }
        lookAhead(hours);
        return answer(ahead.behind(corner));
    }

    public int overIn(int happening) {
        if (!isHappening(happening)) {
            return none(WRONG_NUMBER);
        }
        if (!city.isToCome(happening)) {
            return answer(0);
        }
        lookAhead(MOST_HOURS_AHEAD);
        if (ahead.isToCome(happening)) {
            return none(NONE_SUCH);
        }
        // It came about while its hour went by: one hour later it is over.
        return answer(ahead.happenings.get(happening, City.ENDED) + 1 - city.clock);
    }

    public int becomes(int happening) {
        if (!isHappening(happening)) {
            return none(WRONG_NUMBER);
        }
        lookAhead(MOST_HOURS_AHEAD);
        if (ahead.isToCome(happening)) {
            return none(NONE_SUCH);
        }
        return answer(ahead.happenings.get(happening, City.FATE));
    }

    public int wagesIn(int extra, int hours) {
        if (!isExtra(extra) || !isAhead(hours)) {
            return none(WRONG_NUMBER);
        }
        lookAhead(hours);
        return answer(ahead.extras.get(extra, City.WAGES));
    }

    public int warnedIn(int watcher, int hours) {
        if (!isWatcher(watcher) || !isAhead(hours)) {
            return none(WRONG_NUMBER);
        }
        lookAhead(hours);
        return answer(ahead.watchers.get(watcher, City.WARNED));
    }

    // ---- rosters

    public int attends(int extra, int happenings) {
        if (!isExtra(extra) || happenings < 0 || happenings >= 1 << city.happenings.many) {
            return none(WRONG_NUMBER);
        }
        planner.lineUp(city);
        if ((happenings & ~planner.open) != 0) {
            return none(CANNOT_BE);
        }
        return answer(planner.canAttend(city, extra, happenings) ? 1 : 0);
    }

    public int best(int extra) {
        if (!isExtra(extra)) {
            return none(WRONG_NUMBER);
        }
        planner.lineUp(city);
        return answer(planner.richest(city, extra));
    }

    public int bestWages(int extra) {
        if (!isExtra(extra)) {
            return none(WRONG_NUMBER);
        }
        planner.lineUp(city);
        return answer(city.wagesOf(planner.richest(city, extra)));
    }

    public int fewest() {
        planner.lineUp(city);
        int team = planner.smallestTeam(city);
        return team == NONE ? none(NONE_SUCH) : answer(Integer.bitCount(team));
    }

    public int fewestSet() {
        planner.lineUp(city);
        int team = planner.smallestTeam(city);
        return team == NONE ? none(NONE_SUCH) : answer(team);
    }

    // ---- what is to be

    public int explained(int tray) {
        int wrong = seenStatus(tray);
        if (wrong != FINE) {
            return none(wrong);
        }
        int toCome = city.withFate(City.TO_COME);
        int many = 0;
        for (int set = 0; set <= toCome; set++) {
            if ((set & ~toCome) == 0 && explains(set, tray)) {
                many++;
            }
        }
        return answer(many);
    }

    public int sure(int tray) {
        int wrong = seenStatus(tray);
        if (wrong != FINE) {
            return none(wrong);
        }
        int toCome = city.withFate(City.TO_COME);
        int common = NONE;
        for (int set = 0; set <= toCome; set++) {
            if ((set & ~toCome) == 0 && explains(set, tray)) {
                common &= set;
            }
        }
        return common == NONE ? none(NONE_SUCH) : answer(common);
    }

    public int laws(int tray, int n) {
        int wrong = lawStatus(tray, n);
        if (wrong != FINE) {
            return none(wrong);
        }
        int many = 0;
        for (int a = 1; a <= 9; a++) {
            for (int b = 1; b <= 9; b++) {
                if (fits(a, b, tray, n)) {
                    many++;
                }
            }
        }
        return answer(many);
    }

    public int lawFirst(int tray, int n) {
        int wrong = lawStatus(tray, n);
        if (wrong != FINE) {
            return none(wrong);
        }
        for (int a = 1; a <= 9; a++) {
            for (int b = 1; b <= 9; b++) {
                if (fits(a, b, tray, n)) {
                    return answer(10 * a + b);
                }
            }
        }
        return none(NONE_SUCH);
    }

    // ---- rulers

    public int guard() {
        int corner = ruler.bestPost(city);
        return corner == NONE ? none(NONE_SUCH) : answer(corner);
    }

    public int guardLeft() {
        int corner = ruler.bestPost(city);
        return corner == NONE ? none(NONE_SUCH) : answer(ruler.greatestBut(city, corner));
    }

    public int game(int corner, int turns) {
        if (!isCorner(corner) || !within(turns, 0, Ruler.MOST_TURNS)) {
            return none(WRONG_NUMBER);
        }
        return answer(ruler.worthOf(city, corner, turns));
    }

    public int moveOf(int corner, int turns) {
        if (!isCorner(corner) || !within(turns, 1, Ruler.MOST_TURNS)) {
            return none(WRONG_NUMBER);
        }
        return answer(ruler.firstMove(city, corner, turns));
    }

    public boolean falls(int k) {
        if (!within(k, 0, City.MOST_EXTRAS)) {
            return refused(WRONG_NUMBER);
        }
        int standing = city.extras.many - Integer.bitCount(city.onRoads());
        long whole = 0;
        for (int fallen = k; fallen <= standing; fallen++) {
            whole += choices(standing, fallen) * power(city.odds, fallen)
                * power(City.MOST_ODDS - city.odds, standing - fallen);
        }
        keepFraction(whole, power(City.MOST_ODDS, standing));
        return accepted();
    }

    public int copyStanding(int tray) {
        int corners = city.streets.corners;
        int wrong = rangeStatus(tray, corners);
        if (wrong != FINE) {
            return none(wrong);
        }
        for (int corner = 0; corner < corners; corner++) {
            trays.set(tray, corner, Integer.bitCount(city.behind(corner)));
        }
        return answer(corners);
    }

    // ---- WEEKS

    public int live(int seed) {
        if (!within(seed, 0, LAST_SEED)) {
            return none(WRONG_NUMBER);
        }
        if (!city.hasWeeks) {
            return none(NONE_SUCH);
        }
        int steps = life.pass(city, seed);
        for (int what = 0; what < latestLife.length; what++) {
            latestLife[what] = life.tells(what);
        }
        wasLived = true;
        return answer(steps);
    }

    public int lived(int what) {
        if (!within(what, 0, latestLife.length - 1)) {
            return none(WRONG_NUMBER);
        }
        return wasLived ? answer(latestLife[what]) : none(NONE_SUCH);
    }

    public boolean mean(int seed, int many) {
        if (!within(seed, 0, LAST_SEED) || !within(many, 1, 20) || seed + many - 1 > LAST_SEED) {
            return refused(WRONG_NUMBER);
        }
        if (!city.hasWeeks) {
            return refused(NONE_SUCH);
        }
        long wages = 0;
        for (int i = 0; i < many; i++) {
            ahead.copyFrom(city);
            life.pass(ahead, seed + i);
            wages += ahead.extras.sum(City.WAGES);
        }
        keepFraction(wages, many);
        return accepted();
    }

    // ---- MARKS

    public int mark() {
        if (marked >= marks.length) {
            return none(ONE_TOO_MANY);
        }
        City kept = marks[marked];
        if (kept == null) {
            return none(ONE_TOO_MANY);
        }
        kept.copyFrom(city);
        marked++;
        return answer(marked);
    }

    public int undo() {
        if (marked < 1 || marked > marks.length) {
            return none(NONE_SUCH);
        }
        City kept = marks[marked - 1];
        if (kept == null) {
            return none(NONE_SUCH);
        }
        marked--;
        city.copyFrom(kept);
        return answer(marked);
    }

    // ---- what the calls share

    private int answer(int value) {
        latestStatus = FINE;
        return value;
    }

    private int none(int why) {
        latestStatus = why;
        return NONE;
    }

    private boolean accepted() {
        latestStatus = FINE;
        return true;
    }

    private boolean refused(int why) {
        latestStatus = why;
        return false;
    }

    private static boolean within(int number, int least, int most) {
        return number >= least && number <= most;
    }

    private boolean isCorner(int corner) {
        return within(corner, 0, city.streets.corners - 1);
    }

    private boolean isExtra(int extra) {
        return within(extra, 0, city.extras.many - 1);
    }

    private boolean isHappening(int happening) {
        return within(happening, 0, city.happenings.many - 1);
    }

    private boolean isWatcher(int watcher) {
        return within(watcher, 0, city.watchers.many - 1);
    }

    private static boolean isAhead(int hours) {
        return within(hours, 0, MOST_HOURS_AHEAD);
    }

    private void lookAhead(int hours) {
        ahead.copyFrom(city);
        ahead.passHours(hours);
    }

    private void keepFault() {
        wasParsed = true;
        faultKind = tape.fault;
        faultPlace = tape.faultPlace;
    }

    private void keepFraction(long whole, long parts) {
        long a = whole;
        long b = parts;
        // Two turns halve b at least, so 200 are plenty for a long.
        for (int turn = 0; turn < 200 && b > 0; turn++) {
            long rest = a % b;
            a = b;
            b = rest;
        }
        // a is the greatest common divisor now; of 0 and the parts it is the parts.
        if (a > 0) {
            fractionTop = whole / a;
            fractionBottom = parts / a;
        }
    }

    private static long power(long base, int exponent) {
        long product = 1;
        for (int i = 0; i < exponent; i++) {
            product *= base;
        }
        return product;
    }

    private static long choices(int from, int many) {
        long ways = 1;
        for (int i = 1; i <= many; i++) {
            ways = ways * (from - many + i) / i;
        }
        return ways;
    }

    private int placeStatus(int tray, int place) {
        if (!trays.isTray(tray)) {
            return WRONG_NUMBER;
        }
        if (trays.isMissing(tray)) {
            return MISSING_TRAY;
        }
        return place < 0 || !trays.hasRange(tray, place, 1) ? NO_PLACE : FINE;
    }

    private int rangeStatus(int tray, int many) {
        if (!trays.isTray(tray)) {
            return WRONG_NUMBER;
        }
        if (trays.isMissing(tray)) {
            return MISSING_TRAY;
        }
        return trays.hasRange(tray, 0, many) ? FINE : NO_PLACE;
    }

    private int seenStatus(int tray) {
        int corners = city.streets.corners;
        int wrong = rangeStatus(tray, corners);
        if (wrong != FINE) {
            return wrong;
        }
        for (int corner = 0; corner < corners; corner++) {
            if (!trays.holds(tray, corner, 0, 99)) {
                return WRONG_IN_TRAY;
            }
        }
        return FINE;
    }

    private boolean explains(int set, int tray) {
        for (int corner = 0; corner < city.streets.corners; corner++) {
            int there = set & city.happenings.withValue(City.PLACE, corner);
            if (city.greatnessOf(there) != trays.get(tray, corner)) {
                return false;
            }
        }
        return true;
    }

    private int lawStatus(int tray, int n) {
        if (!within(n, 0, 20)) {
            return WRONG_NUMBER;
        }
        int wrong = rangeStatus(tray, 3 * n);
        if (wrong != FINE) {
            return wrong;
        }
        for (int i = 0; i < n; i++) {
            if (!trays.holds(tray, 3 * i, 1, City.GREATEST) || !trays.holds(tray, 3 * i + 1, 0, 99)
                || !trays.holds(tray, 3 * i + 2, 0, 1)) {
                return WRONG_IN_TRAY;
            }
        }
        return FINE;
    }

    private boolean fits(int a, int b, int tray, int n) {
        for (int i = 0; i < n; i++) {
            long wanted = trays.get(tray, 3 * i) * a;
            // As many as wanted by b, rounded up, are enough: just if b times as many are.
            boolean happens = trays.get(tray, 3 * i + 1) * b >= wanted;
            if (happens != (trays.get(tray, 3 * i + 2) == 1)) {
                return false;
            }
        }
        return true;
    }

    /** Rows of numbers of one sort each. */
    private static final class Trays {
        static final int MOST = 60;
        private static final int TRAYS = 4;
        private final long[] numbers = new long[TRAYS * MOST];
        private final int[] sorts = new int[TRAYS];
        private final int[] sizes = new int[TRAYS];

        Trays() {
            for (int i = 0; i < TRAYS; i++) {
                sizes[i] = NONE;
            }
        }

        boolean isTray(int tray) {
            return tray >= 0 && tray < TRAYS;
        }

        boolean isMissing(int tray) {
            return !isTray(tray) || sizes[tray] == NONE;
        }

        int sortOf(int tray) {
            return isTray(tray) ? sorts[tray] : NONE;
        }

        boolean hasRange(int tray, int place, int many) {
            return isTray(tray) && (long) place + many <= sizes[tray];
        }

        void lay(int tray, int sort, int many) {
            if (!isTray(tray) || many > MOST) {
                return;
            }
            sorts[tray] = sort;
            sizes[tray] = many;
            for (int i = 0; i < many; i++) {
                numbers[tray * MOST + i] = 0;
            }
        }

        private boolean hasPlace(int tray, int place) {
            return isTray(tray) && place >= 0 && place < sizes[tray];
        }

        long get(int tray, int place) {
            return hasPlace(tray, place) ? numbers[tray * MOST + place] : NONE;
        }

        void set(int tray, int place, long number) {
            if (hasPlace(tray, place)) {
                numbers[tray * MOST + place] = trimmed(number, sorts[tray]);
            }
        }

        boolean holds(int tray, int place, int least, int most) {
            long number = get(tray, place);
            return number >= least && number <= most;
        }

        private static long trimmed(long number, int sort) {
            switch (sort) {
                case 0: return (byte) number;
                case 1: return (short) number;
                case 2: return (int) number;
                default: return number;
            }
        }

        void move(int from, int place, int to, int at, int many) {
            if (place < 0 || at < 0 || many < 0 || !hasRange(from, place, many) || !hasRange(to, at, many)) {
                return;
            }
            // arraycopy takes numbers as they were, where the two ranges share places, too.
            System.arraycopy(numbers, from * MOST + place, numbers, to * MOST + at, many);
        }
    }

    /** Rows of like things, numbered as they came, with one number in each column. */
    private static final class Table {
        private final int width;
        private final int[] cells;
        int many;

        Table(int most, int width) {
            this.width = width;
            this.cells = new int[most * width];
        }

        boolean isFull() {
            return (many + 1) * width > cells.length;
        }

        int add() {
            if (isFull()) {
                return NONE;
            }
            many++;
            for (int column = 0; column < width; column++) {
                set(many - 1, column, 0);
            }
            return many - 1;
        }

        int get(int row, int column) {
            boolean isThere = row >= 0 && row < many && column >= 0 && column < width;
            return isThere ? cells[row * width + column] : 0;
        }

        void set(int row, int column, int value) {
            if (row >= 0 && row < many && column >= 0 && column < width) {
                cells[row * width + column] = value;
            }
        }

        void raiseBy(int row, int column, int much) {
            set(row, column, get(row, column) + much);
        }

        int sum(int column) {
            int sum = 0;
            for (int row = 0; row < many; row++) {
                sum += get(row, column);
            }
            return sum;
        }

        /** The set of rows (1 for row 0 ..) that have a value in a column. */
        int withValue(int column, int value) {
            int set = 0;
            for (int row = 0; row < many; row++) {
                if (get(row, column) == value) {
                    set |= 1 << row;
                }
            }
            return set;
        }

        void copyFrom(Table other) {
            if (other.cells.length == cells.length) {
                System.arraycopy(other.cells, 0, cells, 0, cells.length);
                many = other.many;
            }
        }
    }

    /** CORNERS and ROADS. */
    private static final class Streets {
        static final int MOST_CORNERS = 8;
        private static final int MOST_ROADS = 12;
        private static final int FROM = 0;
        private static final int TO = 1;
        // Above every sum of ROADS: no way.
        private static final int NO_WAY = 1000;
        int corners;
        final Table roads = new Table(MOST_ROADS, 2);
        private final int[] takes = new int[MOST_CORNERS * MOST_CORNERS];
        private final int[] hours = new int[MOST_CORNERS * MOST_CORNERS];

        void clear() {
            corners = 0;
            roads.many = 0;
            for (int i = 0; i < takes.length; i++) {
                takes[i] = 0;
                hours[i] = NO_WAY;
            }
        }

        void copyFrom(Streets other) {
            corners = other.corners;
            roads.copyFrom(other.roads);
            System.arraycopy(other.takes, 0, takes, 0, takes.length);
            System.arraycopy(other.hours, 0, hours, 0, hours.length);
        }

        private static boolean areCorners(int corner, int other) {
            return corner >= 0 && corner < MOST_CORNERS && other >= 0 && other < MOST_CORNERS;
        }

        private static int cell(int corner, int other) {
            return corner * MOST_CORNERS + other;
        }

        void addRoad(int corner, int other, int much) {
            if (!areCorners(corner, other) || roads.isFull()) {
                return;
            }
            int road = roads.add();
            roads.set(road, FROM, corner);
            roads.set(road, TO, other);
            int sooner = takesBetween(corner, other);
            if (sooner == 0 || much < sooner) {
                takes[cell(corner, other)] = much;
                takes[cell(other, corner)] = much;
            }
        }

        /** What the shortest ROAD between two CORNERS TAKES, 0 if there is none. */
        int takesBetween(int corner, int other) {
            return areCorners(corner, other) ? takes[cell(corner, other)] : 0;
        }

        int hoursBetween(int corner, int other) {
            int far = areCorners(corner, other) ? hours[cell(corner, other)] : NO_WAY;
            return far >= NO_WAY ? NONE : far;
        }

        void measure() {
            for (int i = 0; i < takes.length; i++) {
                hours[i] = takes[i] == 0 ? NO_WAY : takes[i];
            }
            for (int corner = 0; corner < MOST_CORNERS; corner++) {
                hours[cell(corner, corner)] = 0;
            }
            for (int over = 0; over < MOST_CORNERS; over++) {
                for (int from = 0; from < MOST_CORNERS; from++) {
                    for (int to = 0; to < MOST_CORNERS; to++) {
                        int round = hours[cell(from, over)] + hours[cell(over, to)];
                        hours[cell(from, to)] = Math.min(hours[cell(from, to)], round);
                    }
                }
            }
        }

        int firstCorner(int corner, int goal) {
            int far = hoursBetween(corner, goal);
            if (far == NONE) {
                return NONE;
            }
            for (int next = 0; next < corners; next++) {
                int much = takesBetween(corner, next);
                if (much > 0 && hoursBetween(next, goal) == far - much) {
                    return next;
                }
            }
            return NONE;
        }

        int middle() {
            int best = NONE;
            int least = 0;
            for (int corner = 0; corner < corners; corner++) {
                int sum = hoursToAll(corner);
                if (sum < NO_WAY && (best == NONE || sum < least)) {
                    best = corner;
                    least = sum;
                }
            }
            return best;
        }

        private int hoursToAll(int corner) {
            int sum = 0;
            for (int other = 0; other < corners; other++) {
                int far = hoursBetween(corner, other);
                sum += far == NONE ? NO_WAY : far;
            }
            return sum;
        }

        /** By every part of the city that has the one CORNER and not the other, the fewest ROADS that leave it. */
        int fewestClosed(int corner, int other) {
            int fewest = roads.many;
            for (int part = 0; part < 1 << corners; part++) {
                if ((part >> corner & 1) == 1 && (part >> other & 1) == 0) {
                    fewest = Math.min(fewest, roadsOutOf(part));
                }
            }
            return fewest;
        }

        private int roadsOutOf(int part) {
            int many = 0;
            for (int road = 0; road < roads.many; road++) {
                if ((part >> roads.get(road, FROM) & 1) != (part >> roads.get(road, TO) & 1)) {
                    many++;
                }
            }
            return many;
        }
    }

    /** Which NAME is of which thing. */
    private static final class Names {
        static final int CORNER = 1;
        static final int EXTRA = 2;
        static final int HAPPENING = 3;
        static final int WATCHER = 4;
        private static final int MOST = 27;
        private final long[] codes = new long[MOST];
        private final int[] sorts = new int[MOST];
        private final int[] numbers = new int[MOST];
        private int many;

        void clear() {
            many = 0;
        }

        void copyFrom(Names other) {
            System.arraycopy(other.codes, 0, codes, 0, MOST);
            System.arraycopy(other.sorts, 0, sorts, 0, MOST);
            System.arraycopy(other.numbers, 0, numbers, 0, MOST);
            many = other.many;
        }

        void add(long code, int sort, int number) {
            if (many < MOST) {
                codes[many] = code;
                sorts[many] = sort;
                numbers[many] = number;
                many++;
            }
        }

        int indexOf(long code) {
            for (int i = 0; i < many; i++) {
                if (codes[i] == code) {
                    return i;
                }
            }
            return NONE;
        }

        boolean isOfSort(int index, int sort) {
            return index >= 0 && index < many && sorts[index] == sort;
        }

        int numberOf(int index) {
            return index >= 0 && index < many ? numbers[index] : NONE;
        }
    }

    /** The CITY with all that became of it, and its WEEKS. */
    private static final class City {
        static final int MOST_EXTRAS = 7;
        static final int LAST_HOUR = 9999;
        static final int LAST_TOLD_HOUR = 999;
        static final int GREATEST = 4;
        static final int MOST_FEARS = 7;
        static final int MOST_WAGE = 99;
        static final int MOST_DELAY = 24;
        static final int MOST_ODDS = 16;
        // What became of a HAPPENING.
        static final int TO_COME = 0;
        static final int HAPPENED = 1;
        static final int FAILED = 2;
        // Columns of EXTRAS: who is on a ROAD is AT its end, with HOURS LEFT to go.
        static final int AT = 0;
        static final int LEFT = 1;
        static final int ROSTER = 2;
        static final int WAGES = 3;
        static final int STOOD = 4;
        // Columns of HAPPENINGS.
        static final int PLACE = 0;
        static final int DUE = 1;
        static final int GREAT = 2;
        static final int FATE = 3;
        static final int ENDED = 4;
        // Columns of WATCHERS.
        static final int POST = 0;
        static final int FEARS = 1;
        static final int WARNED = 2;
        int wage;
        int delay;
        int odds;
        int clock;
        boolean hasWeeks;
        final Streets streets = new Streets();
        final Names names = new Names();
        final Table extras = new Table(MOST_EXTRAS, 5);
        final Table happenings = new Table(8, 5);
        final Table watchers = new Table(4, 3);
        final Table weeks = new Table(WeeksReader.MOST_STEPS, WeeksReader.COLUMNS);

        City() {
            clear();
        }

        void clear() {
            wage = 1;
            delay = 2;
            odds = 1;
            clock = 0;
            hasWeeks = false;
            streets.clear();
            names.clear();
            extras.many = 0;
            happenings.many = 0;
            watchers.many = 0;
            weeks.many = 0;
        }

        void copyFrom(City other) {
            wage = other.wage;
            delay = other.delay;
            odds = other.odds;
            clock = other.clock;
            hasWeeks = other.hasWeeks;
            streets.copyFrom(other.streets);
            names.copyFrom(other.names);
            extras.copyFrom(other.extras);
            happenings.copyFrom(other.happenings);
            watchers.copyFrom(other.watchers);
            weeks.copyFrom(other.weeks);
        }

        int addExtra(int corner) {
            int extra = extras.add();
            extras.set(extra, AT, corner);
            return extra;
        }

        int addHappening(int corner, int due, int great) {
            int happening = happenings.add();
            happenings.set(happening, PLACE, corner);
            happenings.set(happening, DUE, due);
            happenings.set(happening, GREAT, great);
            return happening;
        }

        int addWatcher(int corner, int fears) {
            int watcher = watchers.add();
            watchers.set(watcher, POST, corner);
            watchers.set(watcher, FEARS, fears);
            return watcher;
        }

        int withFate(int fate) {
            return happenings.withValue(FATE, fate);
        }

        boolean isToCome(int happening) {
            return happenings.get(happening, FATE) == TO_COME;
        }

        int onRoads() {
            int set = 0;
            for (int extra = 0; extra < extras.many; extra++) {
                if (extras.get(extra, LEFT) > 0) {
                    set |= 1 << extra;
                }
            }
            return set;
        }

        /** The set of EXTRAS who stand at a CORNER. */
        int behind(int corner) {
            int set = 0;
            for (int extra = 0; extra < extras.many; extra++) {
                if (isAt(extra, corner)) {
                    set |= 1 << extra;
                }
            }
            return set;
        }

        boolean isAt(int extra, int corner) {
            return extras.get(extra, LEFT) == 0 && extras.get(extra, AT) == corner;
        }

        int whereabouts(int extra) {
            int corner = extras.get(extra, AT);
            return extras.get(extra, LEFT) > 0 ? 10 + corner : corner;
        }

        boolean isOrdered(int extra, int happening) {
            return (extras.get(extra, ROSTER) >> happening & 1) == 1;
        }

        void turnOrder(int extra, int happening) {
            extras.set(extra, ROSTER, extras.get(extra, ROSTER) ^ 1 << happening);
        }

        boolean putOff(int happening, int hours) {
            if (!isToCome(happening) || happenings.get(happening, DUE) + hours > LAST_HOUR) {
                return false;
            }
            happenings.raiseBy(happening, DUE, hours);
            return true;
        }

        int greatnessOf(int set) {
            int sum = 0;
            for (int happening = 0; happening < happenings.many; happening++) {
                if ((set >> happening & 1) == 1) {
                    sum += happenings.get(happening, GREAT);
                }
            }
            return sum;
        }

        int wagesOf(int set) {
            return wage * greatnessOf(set);
        }

        /** Of a set of HAPPENINGS that with the least HOUR, of several the first. */
        private int soonest(int set) {
            int first = NONE;
            for (int happening = 0; happening < happenings.many; happening++) {
                if ((set >> happening & 1) == 1
                    && (first == NONE || happenings.get(happening, DUE) < happenings.get(first, DUE))) {
                    first = happening;
                }
            }
            return first;
        }

        int goalOf(int extra) {
            return soonest(extras.get(extra, ROSTER) & withFate(TO_COME));
        }

        boolean canPass(int hours) {
            return clock + hours <= LAST_HOUR;
        }

        void passHours(int many) {
            int end = clock + many;
            for (int i = 0; i < many && clock < end; i++) {
                boolean stirred = walk();
                stirred |= befall();
                stirred |= watch();
                clock++;
                if (!stirred) {
                    // As nothing stirred, nothing will before the next HAPPENING's HOUR.
                    clock = nextDue(end);
                }
            }
        }

        private int nextDue(int end) {
            int next = end;
            for (int happening = 0; happening < happenings.many; happening++) {
                int due = happenings.get(happening, DUE);
                if (isToCome(happening) && due >= clock && due < next) {
                    next = due;
                }
            }
            return next;
        }

        private boolean walk() {
            boolean stirred = false;
            int toCome = withFate(TO_COME);
            for (int extra = 0; extra < extras.many; extra++) {
                if (extras.get(extra, LEFT) > 0) {
                    extras.raiseBy(extra, LEFT, -1);
                    stirred = true;
                    continue;
                }
                int happening = soonest(extras.get(extra, ROSTER) & toCome);
                if (happening == NONE) {
                    continue;
                }
                int corner = extras.get(extra, AT);
                int place = happenings.get(happening, PLACE);
                int next = corner == place ? NONE : streets.firstCorner(corner, place);
                if (next != NONE) {
                    extras.set(extra, LEFT, streets.takesBetween(corner, next) - 1);
                    extras.set(extra, AT, next);
                    stirred = true;
                }
            }
            return stirred;
        }

        private boolean befall() {
            boolean stirred = false;
            for (int happening = 0; happening < happenings.many; happening++) {
                if (!isToCome(happening) || happenings.get(happening, DUE) != clock) {
                    continue;
                }
                int behind = behind(happenings.get(happening, PLACE));
                int great = happenings.get(happening, GREAT);
                boolean enough = Integer.bitCount(behind) >= great;
                happenings.set(happening, FATE, enough ? HAPPENED : FAILED);
                happenings.set(happening, ENDED, clock);
                if (enough) {
                    pay(behind, great);
                }
                stirred = true;
            }
            return stirred;
        }

        private void pay(int set, int great) {
            for (int extra = 0; extra < extras.many; extra++) {
                if ((set >> extra & 1) == 1) {
                    extras.raiseBy(extra, WAGES, wage * great);
                    extras.raiseBy(extra, STOOD, 1);
                }
            }
        }

        private boolean watch() {
            boolean stirred = false;
            for (int watcher = 0; watcher < watchers.many; watcher++) {
                int seen = Integer.bitCount(behind(watchers.get(watcher, POST)));
                if (seen >= watchers.get(watcher, FEARS)) {
                    warn(watcher);
                    stirred = true;
                }
            }
            return stirred;
        }

        void warn(int watcher) {
            watchers.raiseBy(watcher, WARNED, 1);
            int there = happenings.withValue(PLACE, watchers.get(watcher, POST));
            int first = soonest(there & happenings.withValue(FATE, TO_COME));
            if (first != NONE) {
                happenings.set(first, DUE, Math.min(happenings.get(first, DUE) + delay, LAST_HOUR));
            }
        }
    }

    /** The tape, and the TOKENS of a text on it, one at a time. */
    private static final class Tokens {
        static final int END = 0;
        static final int WORD = 1;
        static final int NUMBER = 2;
        static final int SIGN = 3;
        static final int NO_TOKEN = 4;
        // FAULTS.
        static final int NO_TOKEN_BEGINS = 1;
        static final int CANNOT_STAND = 2;
        static final int BAD_NAME = 3;
        static final int BAD_NUMBER = 4;
        static final int TOLD_TWICE = 5;
        static final int TOO_MANY = 6;
        static final int TOO_DEEP = 7;
        private static final int MOST_BYTES = 900;
        private static final int MOST_NAME_LETTERS = 8;
        private static final int MOST_DIGITS = 4;
        // Each with a blank behind it; a WORD's number is its place among them, from 1 on.
        private static final String WORDS =
            "wage delay odds corner road takes extra at happening hour great watcher fears roster order put any when is stands over warned loop end stop ";
        static final int WAGE = 1;
        static final int DELAY = 2;
        static final int ODDS = 3;
        static final int CORNER = 4;
        static final int ROAD = 5;
        static final int TAKES = 6;
        static final int EXTRA = 7;
        static final int AT = 8;
        static final int HAPPENING = 9;
        static final int HOUR = 10;
        static final int GREAT = 11;
        static final int WATCHER = 12;
        static final int FEARS = 13;
        static final int ROSTER = 14;
        static final int ORDER = 15;
        static final int PUT = 16;
        static final int ANY = 17;
        static final int WHEN = 18;
        static final int IS = 19;
        static final int STANDS = 20;
        static final int OVER = 21;
        static final int WARNED = 22;
        static final int LOOP = 23;
        static final int CLOSE = 24;
        static final int STOP = 25;
        private final int[] text = new int[MOST_BYTES];
        int held;
        private int length;
        private int place;
        private int next;
        /** The sort of the TOKEN that is looked at. */
        int sort;
        /** A NUMBER's value, a SIGN's byte, which of the WORDS it is (0: none). */
        int value;
        /** The letters of what can be a NAME, 0 for all else. */
        private long code;
        int fault;
        int faultPlace = NONE;

        boolean hasRoomFor(int bytes) {
            return held + bytes <= MOST_BYTES;
        }

        void append(int bytes) {
            if (hasRoomFor(4)) {
                text[held] = bytes >>> 24;
                text[held + 1] = bytes >>> 16 & 255;
                text[held + 2] = bytes >>> 8 & 255;
                text[held + 3] = bytes & 255;
                held += 4;
            }
        }

        /** The first bytes are a text from now on; the tape is empty, but stays as it is till the next bytes come. */
        void begin(int bytes) {
            length = Math.max(0, Math.min(bytes, held));
            held = 0;
            next = 0;
            fault = 0;
            faultPlace = NONE;
            advance();
        }

        boolean isOpen() {
            return fault == 0 && sort != END;
        }

        void fail(int kind) {
            if (fault == 0) {
                fault = kind;
                faultPlace = place;
            }
        }

        void failHere() {
            fail(sort == NO_TOKEN ? NO_TOKEN_BEGINS : CANNOT_STAND);
        }

        void advance() {
            while (next < length && (text[next] == 10 || text[next] == 32)) {
                next++;
            }
            place = next;
            value = 0;
            code = 0;
            if (next >= length) {
                sort = END;
                return;
            }
            int first = text[next];
            if (isLetter(first)) {
                takeLetters();
                value = wordNumber();
                if (value > 0 || next - place > MOST_NAME_LETTERS) {
                    code = 0;
                }
            } else if (isDigit(first)) {
                takeDigits();
            } else if (first == ';' || first == '<' || first == '>' || first == '=') {
                sort = SIGN;
                value = first;
                next++;
            } else {
                sort = NO_TOKEN;
            }
        }

        private static boolean isLetter(int sign) {
            return sign >= 'a' && sign <= 'z';
        }

        private static boolean isDigit(int sign) {
            return sign >= '0' && sign <= '9';
        }

        private void takeLetters() {
            sort = WORD;
            while (next < length && isLetter(text[next])) {
                code = code * 32 + text[next] - 'a' + 1;
                next++;
            }
        }

        private int wordNumber() {
            int number = 1;
            int at = place;
            boolean same = true;
            for (int i = 0; i < WORDS.length(); i++) {
                char sign = WORDS.charAt(i);
                if (sign == ' ') {
                    if (same && at == next) {
                        return number;
                    }
                    number++;
                    at = place;
                    same = true;
                } else if (same && at < next && text[at] == sign) {
                    at++;
                } else {
                    same = false;
                }
            }
            return 0;
        }

        private void takeDigits() {
            while (next < length && isDigit(text[next])) {
                if (next - place < MOST_DIGITS) {
                    value = value * 10 + text[next] - '0';
                }
                next++;
            }
            sort = next - place <= MOST_DIGITS ? NUMBER : NO_TOKEN;
        }

        // Once there is a FAULT, nothing is taken any more: what these give then does not matter.

        void takeWord(int wanted) {
            if (fault != 0) {
                return;
            }
            if (sort != WORD || value != wanted) {
                failHere();
                return;
            }
            advance();
        }

        void takeEnd() {
            if (fault != 0) {
                return;
            }
            if (sort != SIGN || value != ';') {
                failHere();
                return;
            }
            advance();
        }

        int takeCompare() {
            if (fault != 0) {
                return 0;
            }
            if (sort != SIGN || value == ';') {
                failHere();
                return 0;
            }
            int sign = value;
            advance();
            return sign;
        }

        int takeNumber(int least, int most) {
            if (fault != 0) {
                return least;
            }
            if (sort != NUMBER) {
                failHere();
                return least;
            }
            if (value < least || value > most) {
                fail(BAD_NUMBER);
                return least;
            }
            int number = value;
            advance();
            return number;
        }

        long takeNewName(Names names) {
            if (fault != 0) {
                return 0;
            }
            if (code == 0) {
                failHere();
                return 0;
            }
            if (names.indexOf(code) != NONE) {
                fail(BAD_NAME);
                return 0;
            }
            long name = code;
            advance();
            return name;
        }

        /** The number of the thing whose NAME is looked at, which is not gone behind yet. */
        int lookAtName(Names names, int wanted) {
            if (fault != 0) {
                return 0;
            }
            if (code == 0) {
                failHere();
                return 0;
            }
            int index = names.indexOf(code);
            if (!names.isOfSort(index, wanted)) {
                fail(BAD_NAME);
                return 0;
            }
            return names.numberOf(index);
        }

        int takeName(Names names, int wanted) {
            int number = lookAtName(names, wanted);
            if (fault == 0) {
                advance();
            }
            return number;
        }
    }

    /** Makes a CITY of a text. */
    private static final class CityReader {
        private final Tokens tokens;
        final City draft = new City();
        /** The set of the WORDS wage, delay, odds that are told. */
        private int rulesTold;

        CityReader(Tokens tokens) {
            this.tokens = tokens;
        }

        boolean parse(int bytes) {
            draft.clear();
            rulesTold = 0;
            tokens.begin(bytes);
            // A PART has two bytes and more, so there are fewer of them than bytes.
            for (int part = 0; part < bytes && tokens.isOpen(); part++) {
                takePart();
            }
            draft.streets.measure();
            return tokens.fault == 0;
        }

        private void takePart() {
            switch (tokens.sort == Tokens.WORD ? tokens.value : 0) {
                case Tokens.WAGE: draft.wage = takeRule(Tokens.WAGE, 0, City.MOST_WAGE); break;
                case Tokens.DELAY: draft.delay = takeRule(Tokens.DELAY, 1, City.MOST_DELAY); break;
                case Tokens.ODDS: draft.odds = takeRule(Tokens.ODDS, 0, City.MOST_ODDS); break;
                case Tokens.CORNER: takeCorner(); break;
                case Tokens.ROAD: takeRoad(); break;
                case Tokens.EXTRA: takeExtra(); break;
                case Tokens.HAPPENING: takeHappening(); break;
                case Tokens.WATCHER: takeWatcher(); break;
                case Tokens.ROSTER: takeRoster(); break;
                default: tokens.failHere(); break;
            }
        }

        private int takeRule(int word, int least, int most) {
            if ((rulesTold >> word & 1) == 1) {
                tokens.fail(Tokens.TOLD_TWICE);
                return least;
            }
            rulesTold |= 1 << word;
            tokens.advance();
            int much = tokens.takeNumber(least, most);
            tokens.takeEnd();
            return much;
        }

        /** Goes behind a PART's WORD, if there may be one more of what it tells. */
        private void takeFirstWord(boolean isFull) {
            if (isFull) {
                tokens.fail(Tokens.TOO_MANY);
                return;
            }
            tokens.advance();
        }

        private void takeCorner() {
            takeFirstWord(draft.streets.corners >= Streets.MOST_CORNERS);
            long name = tokens.takeNewName(draft.names);
            tokens.takeEnd();
            if (tokens.fault == 0) {
                draft.names.add(name, Names.CORNER, draft.streets.corners);
                draft.streets.corners++;
            }
        }

        private void takeRoad() {
            takeFirstWord(draft.streets.roads.isFull());
            int corner = tokens.takeName(draft.names, Names.CORNER);
            int other = tokens.lookAtName(draft.names, Names.CORNER);
            if (tokens.fault == 0 && corner == other) {
                tokens.fail(Tokens.TOLD_TWICE);
            }
            if (tokens.fault == 0) {
                tokens.advance();
            }
            tokens.takeWord(Tokens.TAKES);
            int takes = tokens.takeNumber(1, 9);
            tokens.takeEnd();
            if (tokens.fault == 0) {
                draft.streets.addRoad(corner, other, takes);
            }
        }

        private void takeExtra() {
            takeFirstWord(draft.extras.isFull());
            long name = tokens.takeNewName(draft.names);
            tokens.takeWord(Tokens.AT);
            int corner = tokens.takeName(draft.names, Names.CORNER);
            tokens.takeEnd();
            if (tokens.fault == 0) {
                draft.names.add(name, Names.EXTRA, draft.addExtra(corner));
            }
        }

        private void takeHappening() {
            takeFirstWord(draft.happenings.isFull());
            long name = tokens.takeNewName(draft.names);
            tokens.takeWord(Tokens.AT);
            int corner = tokens.takeName(draft.names, Names.CORNER);
            tokens.takeWord(Tokens.HOUR);
            int due = tokens.takeNumber(0, City.LAST_TOLD_HOUR);
            tokens.takeWord(Tokens.GREAT);
            int great = tokens.takeNumber(1, City.GREATEST);
            tokens.takeEnd();
            if (tokens.fault == 0) {
                draft.names.add(name, Names.HAPPENING, draft.addHappening(corner, due, great));
            }
        }

        private void takeWatcher() {
            takeFirstWord(draft.watchers.isFull());
            long name = tokens.takeNewName(draft.names);
            tokens.takeWord(Tokens.AT);
            int corner = tokens.takeName(draft.names, Names.CORNER);
            tokens.takeWord(Tokens.FEARS);
            int fears = tokens.takeNumber(1, City.MOST_FEARS);
            tokens.takeEnd();
            if (tokens.fault == 0) {
                draft.names.add(name, Names.WATCHER, draft.addWatcher(corner, fears));
            }
        }

        private void takeRoster() {
            tokens.advance();
            int extra = tokens.takeName(draft.names, Names.EXTRA);
            int roster = 0;
            // A HAPPENING more than there are is told twice, which ends it.
            for (int i = 0; i <= draft.happenings.many && tokens.isOpen() && tokens.sort != Tokens.SIGN; i++) {
                int happening = tokens.lookAtName(draft.names, Names.HAPPENING);
                if (tokens.fault == 0 && (roster >> happening & 1) == 1) {
                    tokens.fail(Tokens.TOLD_TWICE);
                }
                if (tokens.fault == 0) {
                    roster |= 1 << happening;
                    tokens.advance();
                }
            }
            tokens.takeEnd();
            if (tokens.fault == 0) {
                draft.extras.set(extra, City.ROSTER, roster);
            }
        }
    }

    /** Makes WEEKS of a text: a row for each STEP, as they stand. */
    private static final class WeeksReader {
        static final int MOST_STEPS = 30;
        static final int COLUMNS = 6;
        static final int DEEPEST = 3;
        // Columns. A when's, loop's BEHIND is the first STEP behind its end.
        static final int STEP = 0;
        static final int WHAT = 1;
        static final int MUCH = 2;
        static final int TEST = 3;
        static final int COMPARE = 4;
        static final int BEHIND = 5;
        static final int MOST_HOURS = 48;
        static final int MOST_PUT = 99;
        static final int MOST_LOOP = 99;
        private final Tokens tokens;
        final Table steps = new Table(MOST_STEPS, COLUMNS);
        private final int[] opened = new int[DEEPEST];
        private int depth;

        WeeksReader(Tokens tokens) {
            this.tokens = tokens;
        }

        boolean parse(int bytes, Names names) {
            steps.many = 0;
            depth = 0;
            tokens.begin(bytes);
            // A STEP, an end has two bytes and more, so there are fewer of them than bytes.
            for (int i = 0; i < bytes && tokens.isOpen(); i++) {
                takeStep(names);
            }
            if (depth > 0) {
                tokens.fail(Tokens.CANNOT_STAND);
            }
            return tokens.fault == 0;
        }

        private static boolean isStep(int word) {
            switch (word) {
                case Tokens.HOUR:
                case Tokens.ORDER:
                case Tokens.PUT:
                case Tokens.ANY:
                case Tokens.WHEN:
                case Tokens.LOOP:
                case Tokens.STOP:
                    return true;
                default:
                    return false;
            }
        }

        private void takeStep(Names names) {
            int word = tokens.sort == Tokens.WORD ? tokens.value : 0;
            if (word == Tokens.CLOSE) {
                takeClose();
                return;
            }
            boolean opens = word == Tokens.WHEN || word == Tokens.LOOP;
            if (!isStep(word)) {
                tokens.failHere();
            } else if (steps.isFull()) {
                tokens.fail(Tokens.TOO_MANY);
            } else if (opens && depth >= DEEPEST) {
                tokens.fail(Tokens.TOO_DEEP);
            }
            if (tokens.fault != 0) {
                return;
            }
            int step = steps.add();
            steps.set(step, STEP, word);
            tokens.advance();
            if (word == Tokens.WHEN) {
                takeTest(step, names);
            } else {
                takeRest(step, word, names);
            }
            tokens.takeEnd();
            if (opens && depth < DEEPEST) {
                opened[depth] = step;
                depth++;
            }
        }

        private void takeClose() {
            if (depth < 1 || depth > DEEPEST) {
                tokens.failHere();
                return;
            }
            depth--;
            steps.set(opened[depth], BEHIND, steps.many);
            tokens.advance();
            tokens.takeEnd();
        }

        private void takeRest(int step, int word, Names names) {
            switch (word) {
                case Tokens.HOUR:
                    steps.set(step, MUCH, tokens.takeNumber(1, MOST_HOURS));
                    break;
                case Tokens.ORDER:
                    steps.set(step, WHAT, tokens.takeName(names, Names.EXTRA));
                    steps.set(step, MUCH, tokens.takeName(names, Names.HAPPENING));
                    break;
                case Tokens.PUT:
                    steps.set(step, WHAT, tokens.takeName(names, Names.HAPPENING));
                    steps.set(step, MUCH, tokens.takeNumber(1, MOST_PUT));
                    break;
                case Tokens.LOOP:
                    steps.set(step, MUCH, tokens.takeNumber(1, MOST_LOOP));
                    break;
                default:
                    break;
            }
        }

        private void takeTest(int step, Names names) {
            int test = tokens.sort == Tokens.WORD ? tokens.value : 0;
            steps.set(step, TEST, test);
            switch (test) {
                case Tokens.IS:
                    tokens.advance();
                    steps.set(step, WHAT, tokens.takeName(names, Names.HAPPENING));
                    steps.set(step, MUCH, tokens.takeNumber(City.TO_COME, City.FAILED));
                    break;
                case Tokens.STANDS:
                    tokens.advance();
                    steps.set(step, WHAT, tokens.takeName(names, Names.EXTRA));
                    steps.set(step, MUCH, tokens.takeName(names, Names.CORNER));
                    break;
                case Tokens.OVER:
                    tokens.advance();
                    steps.set(step, WHAT, tokens.takeName(names, Names.HAPPENING));
                    break;
                case Tokens.WARNED:
                    tokens.advance();
                    steps.set(step, WHAT, tokens.takeName(names, Names.WATCHER));
                    steps.set(step, COMPARE, tokens.takeCompare());
                    steps.set(step, MUCH, tokens.takeNumber(0, 9999));
                    break;
                default:
                    tokens.failHere();
                    break;
            }
        }
    }

    /** Goes through a CITY's WEEKS by draws. */
    private static final class Life {
        static final int TOLD = 5;
        private static final int MOST_STEPS = 300;
        // Each of 300 STEPS has 99 ends behind it at most.
        private static final int MOST_TURNS = 1000000;
        // Of the when, loop STEPS that are gone through, the outermost first.
        private final int[] begins = new int[WeeksReader.DEEPEST];
        private final int[] ends = new int[WeeksReader.DEEPEST];
        private final int[] timesLeft = new int[WeeksReader.DEEPEST];
        private int seed;
        private int steps;
        private boolean isOver;
        private int missed;
        private int hours;
        private int happened;
        private int warned;
        private int unfinished;

        int pass(City city, int first) {
            begin(city, first);
            int step = 0;
            int depth = 0;
            for (int turn = 0; turn < MOST_TURNS && !isOver; turn++) {
                if (depth > 0 && step >= ends[depth - 1]) {
                    timesLeft[depth - 1]--;
                    if (timesLeft[depth - 1] > 0) {
                        step = begins[depth - 1];
                    } else {
                        depth--;
                    }
                } else if (step >= city.weeks.many) {
                    isOver = true;
                } else if (steps >= MOST_STEPS) {
                    unfinished = 1;
                    isOver = true;
                } else {
                    steps++;
                    int times = timesOf(city, step);
                    int behind = Math.max(step + 1, city.weeks.get(step, WeeksReader.BEHIND));
                    step++;
                    if (times > 0 && depth < WeeksReader.DEEPEST) {
                        begins[depth] = step;
                        ends[depth] = behind;
                        timesLeft[depth] = times;
                        depth++;
                    } else {
                        step = behind;
                    }
                }
            }
            addTallies(city, 1);
            return steps;
        }

        private void begin(City city, int first) {
            seed = first;
            steps = 0;
            isOver = false;
            missed = 0;
            unfinished = 0;
            hours = 0;
            happened = 0;
            warned = 0;
            addTallies(city, -1);
        }

        /** Taken off at first and added at last, what a CITY has tells what came in between. */
        private void addTallies(City city, int times) {
            hours += times * city.clock;
            happened += times * Integer.bitCount(city.withFate(City.HAPPENED));
            warned += times * city.watchers.sum(City.WARNED);
        }

        int tells(int what) {
            switch (what) {
                case 0: return missed;
                case 1: return hours;
                case 2: return happened;
                case 3: return warned;
                default: return unfinished;
            }
        }

        /** Does a STEP: how often the STEPS up to its end, if it has one, are to be gone through. */
        private int timesOf(City city, int step) {
            int what = city.weeks.get(step, WeeksReader.WHAT);
            int much = city.weeks.get(step, WeeksReader.MUCH);
            boolean can = true;
            switch (city.weeks.get(step, WeeksReader.STEP)) {
                case Tokens.HOUR:
                    can = city.canPass(much);
                    if (can) {
                        city.passHours(much);
                    }
                    break;
                case Tokens.ORDER:
                    city.turnOrder(what, much);
                    break;
                case Tokens.PUT:
                    can = city.putOff(what, much);
                    break;
                case Tokens.ANY:
                    can = oneFalls(city);
                    break;
                case Tokens.WHEN:
                    return holds(city, step, what, much) ? 1 : 0;
                case Tokens.LOOP:
                    return much;
                default:
                    isOver = true;
                    break;
            }
            if (!can) {
                missed++;
            }
            return 0;
        }

        private boolean holds(City city, int step, int what, int much) {
            switch (city.weeks.get(step, WeeksReader.TEST)) {
                case Tokens.IS:
                    return city.happenings.get(what, City.FATE) == much;
                case Tokens.STANDS:
                    return city.isAt(what, much);
                case Tokens.OVER:
                    return !city.isToCome(what);
                default:
                    return compares(city.watchers.get(what, City.WARNED),
                        city.weeks.get(step, WeeksReader.COMPARE), much);
            }
        }

        private static boolean compares(int number, int sign, int other) {
            if (sign == '<') {
                return number < other;
            }
            return sign == '>' ? number > other : number == other;
        }

        private boolean oneFalls(City city) {
            int many = city.extras.many;
            if (many < 1) {
                return false;
            }
            seed = (seed * 3121 + 11351) % 65536;
            int extra = seed / 8 % many;
            if (city.extras.get(extra, City.LEFT) > 0) {
                return false;
            }
            int corner = city.extras.get(extra, City.AT);
            for (int watcher = 0; watcher < city.watchers.many; watcher++) {
                if (city.watchers.get(watcher, City.POST) == corner) {
                    city.warn(watcher);
                }
            }
            return true;
        }
    }

    /** What EXTRAS CAN ATTEND. */
    private static final class Planner {
        private static final int MOST = 8;
        private final int[] line = new int[MOST];
        private int lined;
        private final int[] reached = new int[1 << MOST];
        /** The set of HAPPENINGS TO COME at HOURS no sooner than now. */
        int open;

        /** Lines the open HAPPENINGS up by their HOURS, of one HOUR by numbers. */
        void lineUp(City city) {
            open = 0;
            lined = 0;
            for (int happening = 0; happening < city.happenings.many && lined < MOST; happening++) {
                int due = city.happenings.get(happening, City.DUE);
                if (!city.isToCome(happening) || due < city.clock) {
                    continue;
                }
                int at = lined;
                while (at > 0 && city.happenings.get(line[at - 1], City.DUE) > due) {
                    line[at] = line[at - 1];
                    at--;
                }
                line[at] = happening;
                lined++;
                open |= 1 << happening;
            }
        }

        /** The HOUR in which an EXTRA stood, or will first stand, where he goes from. */
        private static int stoodAt(City city, int extra) {
            return city.clock + city.extras.get(extra, City.LEFT) - 1;
        }

        /** Whether one who stands at a CORNER in an HOUR can stand at a HAPPENING. */
        private static boolean comesTo(City city, int corner, int hour, int happening) {
            int far = city.streets.hoursBetween(corner, city.happenings.get(happening, City.PLACE));
            return far != NONE && far <= city.happenings.get(happening, City.DUE) - hour;
        }

        boolean canAttend(City city, int extra, int set) {
            int corner = city.extras.get(extra, City.AT);
            int hour = stoodAt(city, extra);
            for (int i = 0; i < lined; i++) {
                int happening = line[i];
                if ((set >> happening & 1) == 0) {
                    continue;
                }
                if (!comesTo(city, corner, hour, happening)) {
                    return false;
                }
                corner = city.happenings.get(happening, City.PLACE);
                hour = city.happenings.get(happening, City.DUE);
            }
            return true;
        }

        /** BEST: sets come by their numbers, so one as good as another one is not taken. */
        int richest(City city, int extra) {
            int best = 0;
            int most = 0;
            for (int set = 1; set <= open; set++) {
                if ((set & ~open) != 0) {
                    continue;
                }
                int wages = city.wagesOf(set);
                boolean better = wages > most || wages == most && Integer.bitCount(set) < Integer.bitCount(best);
                if (better && canAttend(city, extra, set)) {
                    best = set;
                    most = wages;
                }
            }
            return best;
        }

        /**
         * FEWEST. To attend all, each HAPPENING must be come to from another HAPPENING or from an EXTRA, no two from
         * the same one: which can be just if no set of them can be come to from fewer than it has (Hall's theorem).
         */
        int smallestTeam(City city) {
            gatherReached(city);
            int best = NONE;
            for (int team = 0; team < 1 << city.extras.many; team++) {
                boolean smaller = best == NONE || Integer.bitCount(team) < Integer.bitCount(best);
                if (smaller && isEnough(team)) {
                    best = team;
                }
            }
            return best;
        }

        private boolean isEnough(int team) {
            int from = team << MOST | open;
            for (int set = 1; set <= open; set++) {
                if ((set & ~open) == 0 && Integer.bitCount(reached[set] & from) < Integer.bitCount(set)) {
                    return false;
                }
            }
            return true;
        }

        /** For each set of open HAPPENINGS from which HAPPENINGS, and from which EXTRAS (8 bits up), it is come to. */
        private void gatherReached(City city) {
            reached[0] = 0;
            for (int i = 0; i < lined; i++) {
                reached[1 << line[i]] = comesFrom(city, i);
            }
            for (int set = 1; set <= open; set++) {
                int lowest = set & -set;
                if ((set & ~open) == 0) {
                    reached[set] = reached[lowest] | reached[set - lowest];
                }
            }
        }

        private int comesFrom(City city, int place) {
            int happening = line[place];
            int from = 0;
            for (int i = 0; i < place; i++) {
                int sooner = line[i];
                int corner = city.happenings.get(sooner, City.PLACE);
                if (comesTo(city, corner, city.happenings.get(sooner, City.DUE), happening)) {
                    from |= 1 << sooner;
                }
            }
            for (int extra = 0; extra < city.extras.many; extra++) {
                if (comesTo(city, city.extras.get(extra, City.AT), stoodAt(city, extra), happening)) {
                    from |= 1 << MOST + extra;
                }
            }
            return from;
        }
    }

    /** Where a ruler watches, and his GAMES with plotters. */
    private static final class Ruler {
        static final int MOST_TURNS = 3;
        private static final int UNKNOWN = -1;
        private static final int SETS = 256;
        // What the turns that are left are worth, by turns (but all three), sets done, CORNERS.
        private final int[] worth = new int[(MOST_TURNS - 1) * SETS * Streets.MOST_CORNERS];

        int greatestBut(City city, int corner) {
            int greatest = 0;
            for (int happening = 0; happening < city.happenings.many; happening++) {
                if (city.isToCome(happening) && city.happenings.get(happening, City.PLACE) != corner) {
                    greatest = Math.max(greatest, city.happenings.get(happening, City.GREAT));
                }
            }
            return greatest;
        }

        int bestPost(City city) {
            int best = NONE;
            int least = 0;
            for (int corner = 0; corner < city.streets.corners; corner++) {
                int left = greatestBut(city, corner);
                if (best == NONE || left < least) {
                    best = corner;
                    least = left;
                }
            }
            return best;
        }

        int worthOf(City city, int corner, int turns) {
            forget();
            return leastWorth(city, corner, turns, 0);
        }

        int firstMove(City city, int corner, int turns) {
            forget();
            int best = corner;
            int least = UNKNOWN;
            for (int next = 0; next < city.streets.corners; next++) {
                if (!canMove(city, corner, next)) {
                    continue;
                }
                int value = mostWorth(city, next, turns, 0);
                if (least == UNKNOWN || value < least) {
                    best = next;
                    least = value;
                }
            }
            return best;
        }

        private void forget() {
            for (int i = 0; i < worth.length; i++) {
                worth[i] = UNKNOWN;
            }
        }

        private static boolean canMove(City city, int corner, int next) {
            return corner == next || city.streets.takesBetween(corner, next) > 0;
        }

        /** What so many turns come to from a CORNER, as the ruler is to move. */
        private int leastWorth(City city, int corner, int turns, int done) {
            if (turns < 1 || turns > MOST_TURNS) {
                return 0;
            }
            int cell = ((turns - 1) * SETS + done) * Streets.MOST_CORNERS + corner;
            boolean isKept = cell >= 0 && cell < worth.length;
            if (isKept && worth[cell] != UNKNOWN) {
                return worth[cell];
            }
            int least = UNKNOWN;
            for (int next = 0; next < city.streets.corners; next++) {
                if (canMove(city, corner, next)) {
                    int value = mostWorth(city, next, turns, done);
                    least = least == UNKNOWN ? value : Math.min(least, value);
                }
            }
            if (isKept) {
                worth[cell] = least;
            }
            return least;
        }

        /** The same, as the ruler has moved to a CORNER and the plotters are to do something. */
        private int mostWorth(City city, int corner, int turns, int done) {
            int most = leastWorth(city, corner, turns - 1, done);
            for (int happening = 0; happening < city.happenings.many; happening++) {
                if ((done >> happening & 1) == 1 || !city.isToCome(happening)) {
                    continue;
                }
                boolean counts = city.happenings.get(happening, City.PLACE) != corner;
                int value = counts ? city.happenings.get(happening, City.GREAT) : 0;
                most = Math.max(most, value + leastWorth(city, corner, turns - 1, done | 1 << happening));
            }
            return most;
        }
    }
}
