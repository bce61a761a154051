import java.lang.management.ManagementFactory;

/** The calls make no objects: what a run needs is made with the object. */
public final class RoomTest {
    private static final String CITY = "wage 3;corner p;corner q;corner r;corner s;road p q takes 2;road q r takes 1;"
        + "road r s takes 4;extra a at p;extra b at q;extra c at r;happening t at q hour 11 great 1;"
        + "happening u at r hour 60 great 1;happening v at s hour 9 great 1;watcher w at q fears 1;roster a t u v;";
    private static final String WEEKS = "loop 9;hour 3;any;when over t;order a t;end;end;";
    private static final com.sun.management.ThreadMXBean BEAN =
        (com.sun.management.ThreadMXBean) ManagementFactory.getThreadMXBean();

    public static void main(String[] args) {
        int[][] words = {words(CITY), words(WEEKS)};
        ExtraCaste x = new ExtraCaste();
        // What the machine makes once, when code is first run, does not count.
        for (int i = 0; i < 3; i++) {
            callAll(x, words);
        }
        long start = made();
        made();
        long own = made() - start;
        long before = made();
        for (int i = 0; i < 20; i++) {
            callAll(x, words);
        }
        long bytes = made() - before - own;
        Check.due("bytes made by the calls: " + bytes, bytes < 2000, true);
        before = made();
        ExtraCaste y = new ExtraCaste();
        bytes = made() - before - own;
        Check.due("bytes made by the constructor: " + bytes, bytes < 60000, true);
        Check.due("a new one", y.told(0), 0);
        Check.end();
    }

    private static long made() {
        return BEAN.getThreadAllocatedBytes(Thread.currentThread().getId());
    }

    private static int[] words(String text) {
        int[] words = new int[(text.length() + 19) / 20 * 5 + 1];
        for (int i = 0; i < text.length(); i++) {
            words[i / 4] |= text.charAt(i) << 24 - 8 * (i % 4);
        }
        words[words.length - 1] = text.length();
        return words;
    }

    private static int feed(ExtraCaste x, int[] words) {
        for (int i = 0; i + 5 < words.length; i += 5) {
            x.feed(words[i], words[i + 1], words[i + 2], words[i + 3], words[i + 4]);
        }
        return words[words.length - 1];
    }

    private static void callAll(ExtraCaste x, int[][] words) {
        x.city(feed(x, words[0]));
        x.weeks(feed(x, words[1]));
        x.tray(0, 0, 9);
        x.write(0, 1, 2);
        x.read(0, 1);
        x.pour(0, 0, 0, 1, 3);
        x.mark();
        x.plan(0, 9, 1);
        x.bear(0);
        x.mean(3, 20);
        x.live(7);
        x.lived(0);
        x.undo();
        x.hour(3);
        for (int i = 0; i < 4; i++) {
            x.game(i, 3);
            x.moveOf(i, 3);
            x.far(0, i);
            x.way(0, i);
            x.cut(0, i);
            x.whereIn(i, 300);
            x.standingIn(i, 300);
            x.wagesIn(i, 300);
            x.overIn(i);
            x.becomes(i);
            x.best(i);
            x.bestWages(i);
            x.attends(i, 3);
            x.falls(i);
        }
        x.warnedIn(0, 300);
        x.centre();
        x.fewest();
        x.fewestSet();
        x.copyStanding(0);
        x.explained(0);
        x.sure(0);
        x.laws(0, 3);
        x.lawFirst(0, 3);
        x.guard();
        x.guardLeft();
        for (int i = 0; i < 14; i++) {
            x.told(i);
        }
    }
}
