/** Boundary cases of promises 9 to 12 and of what the Terms say of texts' lengths: feed(), city(), weeks(), fault(). */
public final class EdgeTapeTest {
    private static final int BLANKS = 0x20202020;

    public static void main(String[] args) {
        promise9TakesNineHundred();
        promise9HasNoStatus();
        promise9TheHighestByteFirst();
        promise10TakesTheFirstBytes();
        promise10EmptiesTheTape();
        promise10KeepsTheTapeWithOne();
        termsACityOfNineHundredBytes();
        promise11WeeksOfThreeHundredBytes();
        promise11KeepsTheTapeWithOne();
        promise12AheadOfAny();
        promise12OfTheLatest();
        Check.end();
    }

    private static int feedBlanks(ExtraCaste x) {
        return x.feed(BLANKS, BLANKS, BLANKS, BLANKS, BLANKS);
    }

    /** Promise 9: NONE if there would be more than 900; the tape stays as it is then. */
    private static void promise9TakesNineHundred() {
        ExtraCaste x = new ExtraCaste();
        Check.feed(x, "wage 8;");
        for (int i = 2; i <= 45; i++) {
            Check.due("feed " + i, feedBlanks(x), 20 * i);
        }
        Check.due("feed 46", x.feed(-1, -1, -1, -1, -1), ExtraCaste.NONE);
        Check.due("feed 47", feedBlanks(x), ExtraCaste.NONE);
        Check.refused(x, "P10 901 of 900", x.city(901), 1);
        Check.fine(x, "P10 900 of 900", x.city(7), 0);
        Check.due("what came first is first", x.told(5), 8);
        Check.due("the tape is empty", feedBlanks(x), 20);
    }

    /** Promise 9, Terms ==== 5: feed(), fault(), top(), bottom() have no STATUS. */
    private static void promise9HasNoStatus() {
        ExtraCaste x = new ExtraCaste();
        x.told(14);
        for (int i = 1; i <= 46; i++) {
            feedBlanks(x);
            Check.due("status behind feed " + i, x.status(), 1);
        }
        x.fault(0);
        x.fault(9);
        x.top();
        x.bottom();
        Check.due("status stays", x.status(), 1);
        x.told(0);
        x.fault(9);
        feedBlanks(x);
        Check.due("status stays 0", x.status(), 0);
    }

    /** Promise 9: twenty bytes, the highest of each int first; 128 to 255 are bytes, too. */
    private static void promise9TheHighestByteFirst() {
        for (int at = 0; at < 20; at++) {
            int[] words = {BLANKS, BLANKS, BLANKS, BLANKS, BLANKS};
            int shift = 24 - 8 * (at % 4);
            words[at / 4] = words[at / 4] & ~(255 << shift) | 255 << shift;
            ExtraCaste x = new ExtraCaste();
            x.feed(words[0], words[1], words[2], words[3], words[4]);
            Check.refused(x, "byte 255 at " + at, x.city(20), 9);
            Check.due("fault", x.fault(0), 1);
            Check.due("its place", x.fault(1), at);
            x.feed(words[0], words[1], words[2], words[3], words[4]);
            Check.fine(x, "all bytes ahead of it", x.city(at), 0);
        }
    }

    /** Promise 10: the first n bytes alone, from none to as many as the tape has. */
    private static void promise10TakesTheFirstBytes() {
        ExtraCaste x = new ExtraCaste();
        Check.feed(x, "wage 2;odds 3;!!!!!!");
        Check.fine(x, "0 bytes", x.city(0), 0);
        Check.due("WAGE without", x.told(5), 1);
        Check.feed(x, "wage 2;odds 3;!!!!!!");
        Check.fine(x, "7 bytes", x.city(7), 0);
        Check.due("WAGE", x.told(5), 2);
        Check.due("ODDS without", x.told(7), 1);
        Check.feed(x, "wage 2;odds 3;!!!!!!");
        Check.fine(x, "14 bytes", x.city(14), 0);
        Check.due("ODDS", x.told(7), 3);
        Check.feed(x, "wage 2;odds 3;!!!!!!");
        Check.refused(x, "15 bytes", x.city(15), 9);
        Check.due("fault", x.fault(0), 1);
        Check.due("its place", x.fault(1), 14);
        Check.feed(x, "wage 2;odds 3;      ");
        Check.fine(x, "20 bytes, all", x.city(20), 0);
    }

    /** Promises 10, 11: the tape is empty then, of what stood behind n, too, and with a FAULT, too. */
    private static void promise10EmptiesTheTape() {
        ExtraCaste x = new ExtraCaste();
        for (int n : new int[] {0, 1, 39, 40}) {
            feedBlanks(x);
            feedBlanks(x);
            Check.fine(x, "city of " + n, x.city(n), 0);
            Check.refused(x, "city of 1 more", x.city(1), 1);
            Check.due("empty", feedBlanks(x), 20);
            Check.fine(x, "weeks of " + n / 2, x.weeks(n / 2), 0);
            Check.refused(x, "weeks of 1 more", x.weeks(1), 1);
            Check.fine(x, "weeks of 0", x.weeks(0), 0);
            Check.fine(x, "city of 0", x.city(0), 0);
        }
        Check.feed(x, "!");
        Check.refused(x, "city of a FAULT", x.city(1), 9);
        Check.due("empty", feedBlanks(x), 20);
        Check.feed(x, "!");
        Check.refused(x, "weeks of a FAULT", x.weeks(21), 9);
        Check.due("empty", feedBlanks(x), 20);
    }

    /** Promise 10: with 1 the tape stays, its bytes, too. */
    private static void promise10KeepsTheTapeWithOne() {
        ExtraCaste x = new ExtraCaste();
        Check.feed(x, "wage 6;odds 2;");
        for (int n : new int[] {-1, 21, Integer.MIN_VALUE, Integer.MAX_VALUE}) {
            Check.refused(x, "city of " + n, x.city(n), 1);
            Check.refused(x, "weeks of " + n, x.weeks(n), 1);
        }
        Check.fine(x, "city", x.city(14), 0);
        Check.due("WAGE", x.told(5), 6);
        Check.due("ODDS", x.told(7), 2);
    }

    /** Terms ==== 1: a CITY is a TEXT of at most 900 bytes. */
    private static void termsACityOfNineHundredBytes() {
        String whole = "corner p;extra e at p;" + Edge.many("roster e;", 96) + "wage 9;";
        Edge.cityFine(whole + Edge.many(" ", 900 - whole.length()), 1);
        // The last of the 900 bytes is the last that is looked at.
        String ahead = "corner p;extra e at p;" + Edge.many("roster e;", 96);
        String blanks = Edge.many(" ", 900 - ahead.length() - 7);
        Edge.cityFine(ahead + blanks + "wage 9;", 1);
        Edge.cityFault(ahead + blanks + "wage 9", ".", 1);
        Edge.cityFault(ahead + blanks + "wage 9 ", "", 2);
        Edge.cityFault(Edge.many(" ", 899), "q", 2);
        Edge.cityFault(Edge.many("\n", 899), "5", 2);
        Edge.cityFault(Edge.many(" ", 896) + "wage", 2, 900);
        Edge.cityFault(Edge.many(" ", 895), "12345", 1);
    }

    private static ExtraCaste fed(int blanks) {
        ExtraCaste x = new ExtraCaste();
        for (int i = 0; i < blanks; i += 20) {
            feedBlanks(x);
        }
        return x;
    }

    /** Promise 11, Terms ==== 4: WEEKS are a TEXT of at most 300 bytes. */
    private static void promise11WeeksOfThreeHundredBytes() {
        Edge.taken("300 of 300", () -> fed(300), x -> x.weeks(300), 0);
        Edge.taken("300 of 320", () -> fed(320), x -> x.weeks(300), 0);
        Edge.taken("300 of 900", () -> fed(900), x -> x.weeks(300), 0);
        Edge.refused("301 of 320", () -> fed(320), x -> x.weeks(301), 1);
        Edge.refused("301 of 300", () -> fed(300), x -> x.weeks(301), 1);
        Edge.refused("300 of 280", () -> fed(280), x -> x.weeks(300), 1);
        Edge.refused("281 of 280", () -> fed(280), x -> x.weeks(281), 1);
        Edge.refused("900 of 900", () -> fed(900), x -> x.weeks(900), 1);
        Edge.taken("P10 900 of 900", () -> fed(900), x -> x.city(900), 0);
        Edge.weeksFine(Edge.many(" ", 296) + "any;", 1);
        Edge.weeksFault(Edge.many(" ", 299), "a", 2);
        Edge.weeksFault(Edge.many(" ", 297) + "any", "", 2);
        Edge.weeksFault(Edge.many(" ", 299), "A", 1);
    }

    /** Promise 11: likewise the WEEKS. */
    private static void promise11KeepsTheTapeWithOne() {
        ExtraCaste x = Edge.town();
        Check.feed(x, "any;hour 1;" + Edge.many(" ", 300));
        Check.refused(x, "301", x.weeks(301), 1);
        Check.refused(x, "321", x.weeks(321), 1);
        Check.refused(x, "no WEEKS yet", x.live(0), 6);
        Check.fine(x, "11", x.weeks(11), 2);
        Check.fine(x, "live", x.live(0), 2);
    }

    /** Promise 12: NONE for others, and ahead of any. */
    private static void promise12AheadOfAny() {
        ExtraCaste x = new ExtraCaste();
        for (int what : new int[] {0, 1, -1, 2, Integer.MIN_VALUE, Integer.MAX_VALUE}) {
            Check.due("ahead of any: " + what, x.fault(what), ExtraCaste.NONE);
        }
        x.city(1);
        x.weeks(-1);
        x.weeks(301);
        Check.due("those with STATUS 1 are none", x.fault(0), ExtraCaste.NONE);
        Check.due("those with STATUS 1 are none", x.fault(1), ExtraCaste.NONE);
        x.city(0);
        Check.due("0 without one", x.fault(0), 0);
        Check.due("NONE without one", x.fault(1), ExtraCaste.NONE);
        for (int what : new int[] {-1, 2, Integer.MIN_VALUE, Integer.MAX_VALUE}) {
            Check.due("others: " + what, x.fault(what), ExtraCaste.NONE);
        }
        ExtraCaste y = new ExtraCaste();
        y.weeks(0);
        Check.due("of weeks(), too", y.fault(0), 0);
        Check.due("of weeks(), too", y.fault(1), ExtraCaste.NONE);
    }

    private static void faultIs(ExtraCaste x, int kind, int place) {
        Check.due("fault", x.fault(0), kind);
        Check.due("its place", x.fault(1), place);
        Check.due("others", x.fault(2), ExtraCaste.NONE);
    }

    /** Promise 12: of the latest city() or weeks() with STATUS 0 or 9, whatever else came behind it. */
    private static void promise12OfTheLatest() {
        ExtraCaste x = new ExtraCaste();
        x.mark();
        Check.city(x, "wage 100;");
        faultIs(x, 4, 5);
        x.city(1);
        x.weeks(-1);
        x.told(0);
        x.undo();
        faultIs(x, 4, 5);
        Check.weeks(x, "any;any");
        faultIs(x, 2, 7);
        Check.weeks(x, "any;");
        faultIs(x, 0, ExtraCaste.NONE);
        Check.city(x, "?");
        faultIs(x, 1, 0);
        Check.city(x, "");
        faultIs(x, 0, ExtraCaste.NONE);
    }
}
