import java.util.ArrayList;
import java.util.List;

/**
 * What the tests of boundary cases share. A call that is refused is made on one of two objects that had the same calls
 * ahead: behind it both must answer all else alike, as a refused call changes nothing (Terms ==== 5).
 */
final class Edge {
    interface Made {
        ExtraCaste make();
    }

    interface Asked {
        long on(ExtraCaste x);
    }

    interface AskedWith {
        long on(ExtraCaste x, int n);
    }

    /** Four CORNERS, three ROADS, three EXTRAS, three HAPPENINGS, two WATCHERS; to s there is no way. */
    static final String TOWN = "wage 3;delay 2;odds 8;corner p;corner q;corner r;corner s;road p q takes 2;"
        + "road q r takes 1;road p r takes 9;extra a at p;extra b at q;extra c at q;happening t at q hour 1 great 2;"
        + "happening u at r hour 600 great 1;happening v at s hour 9 great 4;watcher w at q fears 7;"
        + "watcher x at p fears 1;roster a t u;";
    private static final long WIDE = 0x0123456789abcdefL;

    private Edge() {
    }

    /** A yes or no in the form in which a refused call gives NONE. */
    static long yes(boolean answer) {
        return answer ? 1 : ExtraCaste.NONE;
    }

    static ExtraCaste town() {
        return Check.cityOf(TOWN);
    }

    /** A town some HOURS on, with all that an object can hold: TRAYS (3 is MISSING), a tape, WEEKS, MARKS, a FAULT. */
    static ExtraCaste busy() {
        ExtraCaste x = town();
        Check.weeks(x, "hour 2;any;");
        x.mark();
        x.hour(1);
        x.live(5);
        x.mark();
        x.plan(1, 40, 2);
        Check.weeks(x, "hour 1;order a u;hour 9;");
        x.falls(2);
        x.tray(0, 0, 5);
        x.write(0, 1, 1);
        x.write(0, 2, 120);
        x.tray(1, 1, 9);
        x.write(1, 0, 4);
        x.tray(2, 0, 3);
        x.write(2, 0, 3);
        Check.weeks(x, "any;hour 0;");
        Check.feed(x, "wage 44;corner zz;");
        return x;
    }

    /** All that an object answers: what is told, then what is told behind calls that use up WEEKS, MARKS, the tape. */
    static List<Long> look(ExtraCaste x) {
        List<Long> all = new ArrayList<>();
        all.add((long) x.fault(0));
        all.add((long) x.fault(1));
        lookAtAnswers(x, all);
        lookAtTrays(x, all);
        lookAtMarks(x, all);
        lookAtTape(x, all);
        return all;
    }

    private static void lookAtAnswers(ExtraCaste x, List<Long> all) {
        all.add(x.top());
        all.add(x.bottom());
        for (int what = 0; what < 14; what++) {
            all.add((long) x.told(what));
        }
        for (int what = 0; what < 5; what++) {
            all.add((long) x.lived(what));
            for (int i = 0; i < x.told(2); i++) {
                all.add((long) x.extra(i, what));
            }
            for (int i = 0; i < x.told(3) && what < 4; i++) {
                all.add((long) x.happening(i, what));
            }
            for (int i = 0; i < x.told(4) && what < 3; i++) {
                all.add((long) x.watcher(i, what));
            }
        }
        for (int i = 0; i + 1 < x.told(0); i++) {
            all.add((long) x.road(i, i + 1));
        }
    }

    private static void lookAtTrays(ExtraCaste x, List<Long> all) {
        for (int tray = 0; tray < 4; tray++) {
            int size = 0;
            while (size < 61) {
                all.add(x.read(tray, size));
                if (x.status() != 0) {
                    break;
                }
                size++;
            }
            all.add((long) size);
            all.add((long) x.status());
            if (size > 0) {
                x.write(tray, 0, WIDE);
                all.add(x.read(tray, 0));
            }
        }
    }

    private static void lookAtMarks(ExtraCaste x, List<Long> all) {
        for (int i = 0; i < 4; i++) {
            all.add((long) x.live(i));
            for (int what = 0; what < 5; what++) {
                all.add((long) x.lived(what));
            }
            for (int what = 0; what < 14; what++) {
                all.add((long) x.told(what));
            }
            all.add((long) x.undo());
        }
    }

    private static void lookAtTape(ExtraCaste x, List<Long> all) {
        int held = x.feed(0x20202020, 0x20202020, 0x20202020, 0x20202020, 0x20202020);
        all.add((long) held);
        all.add((long) x.city(held == ExtraCaste.NONE ? 900 : held));
        all.add((long) x.fault(0));
        all.add((long) x.fault(1));
        all.add((long) x.told(0));
        all.add((long) x.told(5));
    }

    static void taken(String what, Made made, Asked call, long want) {
        ExtraCaste x = made.make();
        Check.fine(x, what, call.on(x), want);
    }

    static void refused(String what, Made made, Asked call, int status) {
        ExtraCaste x = made.make();
        Check.refused(x, what, call.on(x), status);
        Check.due(what + " changes nothing", look(x).equals(look(made.make())), true);
    }

    /** Below the least number and above the most a call has a STATUS; it takes both. */
    static void ends(String what, Made made, int status, int least, int most, AskedWith call) {
        below(what, made, status, least, call);
        above(what, made, status, most, call);
    }

    static void below(String what, Made made, int status, int least, AskedWith call) {
        refused(what + " " + (least - 1), made, x -> call.on(x, least - 1), status);
        refused(what + " " + Integer.MIN_VALUE, made, x -> call.on(x, Integer.MIN_VALUE), status);
        isTaken(what, made, least, call);
    }

    static void above(String what, Made made, int status, int most, AskedWith call) {
        refused(what + " " + (most + 1), made, x -> call.on(x, most + 1), status);
        refused(what + " " + Integer.MAX_VALUE, made, x -> call.on(x, Integer.MAX_VALUE), status);
        isTaken(what, made, most, call);
    }

    private static void isTaken(String what, Made made, int n, AskedWith call) {
        ExtraCaste x = made.make();
        call.on(x, n);
        Check.due(what + " " + n + ": status", x.status(), 0);
    }

    /** So many of one text, each # in it a letter: a, b, .. */
    static String many(String one, int many) {
        StringBuilder b = new StringBuilder();
        for (int i = 0; i < many; i++) {
            b.append(one.replace('#', (char) ('a' + i % 26)));
        }
        return b.toString();
    }

    /** The rest begins with the TOKEN at which a CITY has its FAULT. */
    static void cityFault(String ahead, String rest, int kind) {
        fault(ahead + rest, kind, ahead.length(), true);
    }

    static void cityFault(String text, int kind, int place) {
        fault(text, kind, place, true);
    }

    static void weeksFault(String ahead, String rest, int kind) {
        fault(ahead + rest, kind, ahead.length(), false);
    }

    static void weeksFault(String text, int kind, int place) {
        fault(text, kind, place, false);
    }

    private static void fault(String text, int kind, int place, boolean isCity) {
        ExtraCaste x = old();
        Check.refused(x, text, isCity ? Check.city(x, text) : Check.weeks(x, text), 9);
        Check.due("fault of " + text, x.fault(0), kind);
        Check.due("place in " + text, x.fault(1), place);
        List<Long> is = look(x);
        List<Long> was = look(old());
        Check.due(text + " leaves the old", is.subList(2, is.size()).equals(was.subList(2, was.size())), true);
    }

    /** A town on which no text waits. */
    private static ExtraCaste old() {
        ExtraCaste x = town();
        Check.weeks(x, "hour 2;any;");
        x.mark();
        x.hour(1);
        x.live(5);
        return x;
    }

    static void cityFine(String text, int corners) {
        ExtraCaste x = new ExtraCaste();
        Check.fine(x, text, Check.city(x, text), corners);
        Check.due("no fault in " + text, x.fault(0), 0);
        Check.due("no place in " + text, x.fault(1), ExtraCaste.NONE);
    }

    static void weeksFine(String text, int steps) {
        ExtraCaste x = town();
        Check.fine(x, text, Check.weeks(x, text), steps);
        Check.due("no fault in " + text, x.fault(0), 0);
        Check.due("no place in " + text, x.fault(1), ExtraCaste.NONE);
    }
}
