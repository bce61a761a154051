import java.util.Arrays;
import java.util.Random;

/**
 * Promises 1 to 58 over drawn runs of calls: every answer and STATUS is compared with the oracle's. The runs go on behind
 * the 512th call, which the document leaves free, as the class does not count its calls.
 */
public final class OracleTest {
    private static final String[] CALLS = ("tray write write write read pour city weeks weeks told extra happening watcher standing road "
        + "hour hour hour order order put raise plan bear post scare rule far way centre cut goal whereIn standingIn overIn becomes "
        + "wagesIn warnedIn attends best bestWages fewest fewestSet explained sure laws lawFirst guard guardLeft game moveOf falls "
        + "copyStanding live live lived mean mark undo fault").split(" ");

    private final Random random;
    private final Both both = new Both();
    private final Oracle oracle = both.oracle;
    private final Texts texts;
    private final StringBuilder story = new StringBuilder();

    private OracleTest(long seed) {
        random = new Random(seed);
        texts = new Texts(random);
    }

    public static void main(String[] args) throws Exception {
        int runs = args.length > 1 ? Integer.parseInt(args[1]) : 400;
        int first = args.length > 2 ? Integer.parseInt(args[2]) : 0;
        for (int run = first; run < first + runs; run++) {
            new OracleTest(run).run(run);
        }
        Check.end();
    }

    private boolean both(int run, String call, long... p) throws Exception {
        story.append(call).append(Arrays.toString(p)).append('\n');
        return both.call("run " + run, call, p);
    }

    private void run(int run) throws Exception {
        boolean same = feed(run, texts.city(), "city");
        for (int i = 0; i < 400 && same; i++) {
            String call = CALLS[random.nextInt(CALLS.length)];
            if (call.equals("city")) {
                same = random.nextInt(8) != 0 || feed(run, texts.broken(texts.city()), "city");
            } else if (call.equals("weeks")) {
                String text = texts.weeks(oracle.city.names);
                same = feed(run, random.nextInt(3) == 0 ? texts.broken(text) : text, "weeks");
            } else {
                same = both(run, call, drawn(call));
            }
            same = same && (i % 10 != 0 || state(run));
        }
        if (!same) {
            System.out.println(story);
            Check.end();
        }
    }

    private boolean feed(int run, String text, String call) throws Exception {
        boolean same = true;
        for (int at = 0; at < text.length() && same; at += 20) {
            long[] words = new long[5];
            for (int k = 0; k < 20; k++) {
                int sign = at + k < text.length() ? text.charAt(at + k) : 0;
                words[k / 4] = words[k / 4] << 8 | sign;
            }
            same = both(run, "feed", words);
        }
        story.append(text).append('\n');
        int n = random.nextInt(40) == 0 ? text.length() + 20 : text.length();
        same = same && both(run, call, n) && both(run, "fault", 0) && both(run, "fault", 1);
        if (same && both.caste.status() == 1) {
            // What was refused is still on the tape.
            same = both(run, "city", 0);
        }
        return same;
    }

    private boolean state(int run) throws Exception {
        boolean same = true;
        for (int what = 0; what < 14; what++) {
            same &= both(run, "told", what);
        }
        for (int thing = 0; thing < 8; thing++) {
            for (int what = 0; what < 5; what++) {
                same &= both(run, "extra", thing, what) && both(run, "happening", thing, what)
                    && both(run, "watcher", thing, what);
            }
            same &= both(run, "standing", thing);
        }
        return same;
    }

    private long some(int low, int high) {
        if (random.nextInt(25) == 0) {
            int[] off = {low - 1, high + 1, low - 7, high + 60, Integer.MIN_VALUE, Integer.MAX_VALUE};
            return off[random.nextInt(off.length)];
        }
        return high < low ? low : low + random.nextInt(high - low + 1);
    }

    private long corner() {
        return some(0, oracle.city.corners - 1);
    }

    private long extra() {
        return some(0, oracle.city.extras.size() - 1);
    }

    private long happening() {
        return some(0, oracle.city.happenings.size() - 1);
    }

    private long watcher() {
        return some(0, oracle.city.watchers.size() - 1);
    }

    private long[] drawn(String call) {
        switch (call) {
            case "tray": return new long[] {some(0, 3), some(0, 3), random.nextInt(3) == 0 ? some(0, 60) : some(0, 9)};
            case "write": return new long[] {some(0, 3), some(0, 8), number()};
            case "read": return new long[] {some(0, 3), some(0, 8)};
            case "pour": return new long[] {some(0, 3), some(0, 6), some(0, 3), some(0, 6), some(0, 5)};
            case "told": return new long[] {some(0, 13)};
            case "extra": return new long[] {extra(), some(0, 4)};
            case "happening": return new long[] {happening(), some(0, 4)};
            case "watcher": return new long[] {watcher(), some(0, 2)};
            case "standing":
            case "bear": return new long[] {corner()};
            case "road":
            case "far":
            case "way":
            case "cut": return new long[] {corner(), corner()};
            case "hour": return new long[] {random.nextInt(4) == 0 ? some(1, 99) : some(1, 6)};
            case "order": return new long[] {extra(), happening(), random.nextInt(2)};
            case "put": return new long[] {happening(), random.nextInt(3) == 0 ? some(1, 99) : some(1, 12)};
            case "raise": return new long[] {happening(), some(1, 4)};
            case "plan": return new long[] {corner(),
                random.nextInt(4) == 0 ? some(0, 999) : Math.min(999, oracle.city.hour + some(0, 12)), some(1, 4)};
            case "post": return new long[] {watcher(), corner()};
            case "scare": return new long[] {watcher(), some(1, 7)};
            case "rule": return rule();
            case "goal":
            case "best":
            case "bestWages": return new long[] {extra()};
            case "whereIn":
            case "wagesIn": return new long[] {extra(), hours()};
            case "standingIn": return new long[] {corner(), hours()};
            case "warnedIn": return new long[] {watcher(), hours()};
            case "overIn":
            case "becomes": return new long[] {happening()};
            case "attends": return new long[] {extra(), set()};
            case "explained":
            case "sure":
            case "copyStanding": return new long[] {some(0, 3)};
            case "laws":
            case "lawFirst": return new long[] {some(0, 3), random.nextInt(5) == 0 ? some(0, 20) : some(0, 2)};
            case "game": return new long[] {corner(), random.nextInt(6) == 0 ? some(0, 3) : some(0, 2)};
            case "moveOf": return new long[] {corner(), random.nextInt(6) == 0 ? some(1, 3) : some(1, 2)};
            case "falls": return new long[] {some(0, 7)};
            case "live": return new long[] {some(0, 9999)};
            case "lived": return new long[] {some(0, 4)};
            case "mean": return new long[] {random.nextInt(5) == 0 ? some(9975, 9999) : some(0, 9999), some(1, 20)};
            case "fault": return new long[] {some(0, 1)};
            default: return new long[0];
        }
    }

    private long number() {
        switch (random.nextInt(10)) {
            case 0: return random.nextLong();
            case 1: return -1;
            case 2: return random.nextInt(110);
            default: return random.nextInt(5);
        }
    }

    private long[] rule() {
        int what = (int) some(5, 7);
        int[] most = {99, 24, 16};
        return new long[] {what, what >= 5 && what <= 7 ? some(what == 6 ? 1 : 0, most[what - 5]) : 3};
    }

    private long hours() {
        return random.nextInt(3) == 0 ? some(0, 300) : some(0, 20);
    }

    private long set() {
        int all = (1 << oracle.city.happenings.size()) - 1;
        return random.nextInt(2) == 0 ? some(0, all) : oracle.city.open() & random.nextInt(all + 1);
    }
}
