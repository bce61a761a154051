/** Boundary cases of MARKS (Terms ==== 4) and of promises 57, 58: mark(), undo(). */
public final class EdgeMarksTest {
    public static void main(String[] args) {
        promise57AFourth();
        promise58NoneLeft();
        promises57And58OfAnEmptyCity();
        termsTheLatestFirst();
        termsAMarkIsGoneThen();
        termsTheCityAndTheWeeks();
        termsNothingElse();
        termsMarksOutlastACity();
        Check.end();
    }

    private static ExtraCaste marked(int many) {
        ExtraCaste x = Edge.town();
        for (int i = 1; i <= many; i++) {
            Check.fine(x, "mark " + i, x.mark(), i);
            x.hour(1);
        }
        return x;
    }

    /** Terms ==== 4: MARKS, at most 3; promise 57: 4. */
    private static void promise57AFourth() {
        for (int many = 0; many <= 2; many++) {
            int n = many;
            Edge.taken("mark " + (n + 1), () -> marked(n), ExtraCaste::mark, n + 1);
        }
        Edge.refused("a fourth", () -> marked(3), ExtraCaste::mark, 4);
        ExtraCaste x = marked(3);
        x.mark();
        x.mark();
        Check.fine(x, "undo", x.undo(), 2);
        Check.fine(x, "room again", x.mark(), 3);
        Check.refused(x, "a fourth", x.mark(), 4);
    }

    /** Promise 58: how many there are left; 6. */
    private static void promise58NoneLeft() {
        Edge.refused("none", () -> marked(0), ExtraCaste::undo, 6);
        for (int many = 1; many <= 3; many++) {
            ExtraCaste x = marked(many);
            for (int left = many - 1; left >= 0; left--) {
                Check.fine(x, "undo", x.undo(), left);
                Check.due("HOUR", x.told(8), left);
            }
            Check.refused(x, "none left", x.undo(), 6);
            Check.refused(x, "none left", x.undo(), 6);
            Check.due("HOUR", x.told(8), 0);
            Check.fine(x, "a first again", x.mark(), 1);
        }
    }

    private static void promises57And58OfAnEmptyCity() {
        ExtraCaste x = new ExtraCaste();
        Check.refused(x, "none", x.undo(), 6);
        Check.fine(x, "mark", x.mark(), 1);
        Check.city(x, Edge.TOWN);
        Check.fine(x, "undo", x.undo(), 0);
        int[] told = {0, 0, 0, 0, 0, 1, 2, 1, 0, 0, 0, 0, 0, 0};
        for (int what = 0; what < told.length; what++) {
            Check.due("told " + what, x.told(what), told[what]);
        }
        Check.refused(x, "no CORNERS", x.centre(), 6);
    }

    /** Terms ==== 4: all is taken back to the latest MARK. */
    private static void termsTheLatestFirst() {
        ExtraCaste x = Edge.town();
        for (int wage = 10; wage < 13; wage++) {
            x.rule(5, wage);
            x.mark();
        }
        x.rule(5, 99);
        for (int wage = 12; wage >= 10; wage--) {
            x.undo();
            Check.due("WAGE", x.told(5), wage);
            x.rule(5, 98);
        }
    }

    /** Terms ==== 4: which is gone then. */
    private static void termsAMarkIsGoneThen() {
        ExtraCaste x = marked(2);
        x.undo();
        x.hour(5);
        Check.fine(x, "the first, not the second again", x.undo(), 0);
        Check.due("HOUR", x.told(8), 0);
    }

    /** Terms ==== 4: the CITY with all that became of it, the WEEKS: whatever call changed them. */
    private static void termsTheCityAndTheWeeks() {
        Edge.Asked[] calls = {x -> x.hour(99), x -> Edge.yes(x.order(2, 2, true)), x -> x.put(1, 99),
            x -> Edge.yes(x.raise(1, 4)), x -> x.plan(0, 9, 1), x -> x.bear(3), x -> Edge.yes(x.post(0, 3)),
            x -> Edge.yes(x.scare(0, 1)), x -> Edge.yes(x.rule(5, 50)), x -> Edge.yes(x.rule(6, 20)),
            x -> Edge.yes(x.rule(7, 0)), x -> Check.weeks(x, "any;"), x -> Check.city(x, "corner z;"),
            x -> Check.city(x, "")};
        for (int i = 0; i < calls.length; i++) {
            ExtraCaste x = whole();
            ExtraCaste y = whole();
            Check.fine(x, "mark", x.mark(), 1);
            calls[i].on(x);
            Check.due("call " + i, x.status(), 0);
            Check.fine(x, "undo", x.undo(), 0);
            // fault() is of the latest text: none had one.
            Check.due("all is taken back of call " + i, Edge.look(x).equals(Edge.look(y)), true);
        }
        ExtraCaste x = whole();
        x.mark();
        Check.city(x, "");
        Check.refused(x, "no WEEKS", x.live(0), 6);
        x.undo();
        Check.fine(x, "the WEEKS are back", x.live(0), 3);
    }

    private static ExtraCaste whole() {
        ExtraCaste x = Edge.town();
        Check.weeks(x, "hour 3;any;order a u;");
        x.hour(2);
        return x;
    }

    /** Terms ==== 4: the CITY, the WEEKS alone: TRAYS, the tape, the FRACTION, fault(), lived() stay as they are. */
    private static void termsNothingElse() {
        ExtraCaste x = whole();
        x.mark();
        x.live(0);
        x.tray(0, 0, 2);
        x.write(0, 1, 9);
        x.falls(1);
        long bottom = x.bottom();
        Check.city(x, "wage 100;");
        Check.feed(x, "wage 8;");
        x.undo();
        Check.fine(x, "TRAYS", x.read(0, 1), 9);
        Check.due("the FRACTION", x.bottom(), bottom);
        Check.due("fault()", x.fault(0), 4);
        Check.fine(x, "lived()", x.lived(1), 3);
        Check.due("HOUR", x.told(8), 2);
        Check.fine(x, "the tape", x.city(7), 0);
        Check.due("WAGE", x.told(5), 8);
    }

    /** A CITY that is taken leaves the MARKS. */
    private static void termsMarksOutlastACity() {
        ExtraCaste x = marked(2);
        Check.city(x, "corner z;");
        Check.fine(x, "a third", x.mark(), 3);
        Check.refused(x, "a fourth", x.mark(), 4);
        x.undo();
        Check.due("one CORNER", x.told(0), 1);
        x.undo();
        Check.due("four", x.told(0), 4);
        Check.due("HOUR", x.told(8), 1);
    }
}
