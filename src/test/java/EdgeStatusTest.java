/**
 * Terms ==== 5: each STATUS but 1 (that is EdgeNumbersTest's) of each call that can have it, which comes first of several
 * that hold, and that with it a call gives NONE, or false, and changes nothing else.
 */
public final class EdgeStatusTest {
    public static void main(String[] args) {
        status2TheTrayIsMissing();
        status3APlaceThatItHasNot();
        status4OneTooMany();
        status5ANumberInATray();
        status6ThereIsNoneSuch();
        status7ItCannotBe();
        status8UnlikeSorts();
        status9AFault();
        status9ChangesTheTapeAndTheFault();
        status0ChangesWhatItShould();
        theFirstThatHolds();
        promise9WithoutAStatus();
        Check.end();
    }

    private static void is(int status, String what, Edge.Asked call) {
        Edge.refused(what, Edge::busy, call, status);
    }

    /** Of busy() TRAY 3 is MISSING. Promises 6 to 8, 44 to 47, 53. */
    private static void status2TheTrayIsMissing() {
        is(2, "P6", x -> Edge.yes(x.write(3, 0, 1)));
        is(2, "P7", x -> x.read(3, 0));
        is(2, "P8 from", x -> Edge.yes(x.pour(3, 0, 0, 0, 1)));
        is(2, "P8 to", x -> Edge.yes(x.pour(0, 0, 3, 0, 1)));
        is(2, "P44", x -> x.explained(3));
        is(2, "P45", x -> x.sure(3));
        is(2, "P46", x -> x.laws(3, 1));
        is(2, "P47", x -> x.lawFirst(3, 1));
        is(2, "P53", x -> x.copyStanding(3));
    }

    /** Of busy() TRAYS 0 and 2, of 8 bits, have five places and three. */
    private static void status3APlaceThatItHasNot() {
        is(3, "P6", x -> Edge.yes(x.write(0, 5, 1)));
        is(3, "P6", x -> Edge.yes(x.write(2, -1, 1)));
        is(3, "P7", x -> x.read(2, 3));
        is(3, "P7", x -> x.read(0, -1));
        is(3, "P8 from", x -> Edge.yes(x.pour(2, 1, 0, 0, 3)));
        is(3, "P8 to", x -> Edge.yes(x.pour(0, 0, 2, 1, 3)));
        is(3, "P44", x -> x.explained(2));
        is(3, "P45", x -> x.sure(2));
        is(3, "P46", x -> x.laws(0, 2));
        is(3, "P47", x -> x.lawFirst(2, 2));
        is(3, "P53", x -> x.copyStanding(2));
    }

    /** Promises 19, 23, 24, 57. */
    private static void status4OneTooMany() {
        Edge.Made full = () -> {
            ExtraCaste x = Edge.busy();
            x.mark();
            for (int i = 0; i < 4; i++) {
                x.bear(3);
                x.plan(3, 0, 1);
            }
            return x;
        };
        Edge.refused("P23", full, x -> x.plan(0, 0, 1), 4);
        Edge.refused("P24", full, x -> x.bear(0), 4);
        Edge.refused("P57", full, ExtraCaste::mark, 4);
        Edge.Made late = () -> {
            ExtraCaste x = Edge.busy();
            for (int i = 0; i < 100; i++) {
                x.hour(99);
            }
            return x;
        };
        Edge.refused("P19", late, x -> x.hour(99), 4);
    }

    /** Of busy() TRAY 0 holds a 120, TRAY 1 a GREAT 4 with 0 behind that did not happen, then 0s. */
    private static void status5ANumberInATray() {
        is(5, "P44", x -> x.explained(0));
        is(5, "P45", x -> x.sure(0));
        is(5, "P46", x -> x.laws(0, 1));
        is(5, "P46", x -> x.laws(1, 2));
        is(5, "P47", x -> x.lawFirst(0, 1));
        is(5, "P47", x -> x.lawFirst(1, 3));
        Edge.taken("P46 one three alone", Edge::busy, x -> x.laws(1, 1), 81);
    }

    /** Promises 18, 28 to 30, 32, 35, 36, 42, 43, 45, 47 to 49, 54 to 56, 58. */
    private static void status6ThereIsNoneSuch() {
        is(6, "P18", x -> x.road(0, 3));
        is(6, "P28", x -> x.far(3, 1));
        is(6, "P29", x -> x.way(1, 3));
        is(6, "P30", ExtraCaste::centre);
        is(6, "P32", x -> x.goal(2));
        is(6, "P35", x -> x.overIn(1));
        is(6, "P36", x -> x.becomes(1));
        is(6, "P42", ExtraCaste::fewest);
        is(6, "P43", ExtraCaste::fewestSet);
        is(6, "P45", x -> x.sure(1));
        Edge.Made impossible = () -> {
            ExtraCaste x = Edge.busy();
            x.write(2, 0, 1);
            x.write(2, 2, 1);
            return x;
        };
        Edge.refused("P47", impossible, x -> x.lawFirst(2, 1), 6);
        Edge.Made bare = () -> {
            ExtraCaste x = Edge.busy();
            Check.city(x, "");
            return x;
        };
        Edge.refused("P30 no CORNERS", bare, ExtraCaste::centre, 6);
        Edge.refused("P48", bare, ExtraCaste::guard, 6);
        Edge.refused("P49", bare, ExtraCaste::guardLeft, 6);
        Edge.refused("P54", bare, x -> x.live(0), 6);
        Edge.refused("P56", bare, x -> Edge.yes(x.mean(0, 1)), 6);
        Edge.refused("P55", Edge::town, x -> x.lived(0), 6);
        Edge.refused("P58", Edge::town, ExtraCaste::undo, 6);
    }

    /** Promises 20 to 22, 25, 29, 31, 39. Of busy() t HAPPENED, or FAILED; a has u on his ROSTER. */
    private static void status7ItCannotBe() {
        is(7, "P20", x -> Edge.yes(x.order(0, 1, true)));
        is(7, "P20", x -> Edge.yes(x.order(1, 1, false)));
        is(7, "P21", x -> x.put(0, 1));
        is(7, "P22", x -> Edge.yes(x.raise(0, 1)));
        is(7, "P25", x -> Edge.yes(x.post(0, 1)));
        is(7, "P25", x -> Edge.yes(x.post(1, 0)));
        is(7, "P29", x -> x.way(2, 2));
        is(7, "P31", x -> x.cut(3, 3));
        is(7, "P39", x -> x.attends(0, 1));
        Edge.Made far = () -> {
            ExtraCaste x = Edge.busy();
            for (int i = 0; i < 95; i++) {
                x.put(1, 99);
            }
            return x;
        };
        Edge.refused("P21 above 9,999", far, x -> x.put(1, 99), 7);
    }

    /** Promise 8. */
    private static void status8UnlikeSorts() {
        is(8, "P8", x -> Edge.yes(x.pour(0, 0, 1, 0, 1)));
        is(8, "P8", x -> Edge.yes(x.pour(1, 0, 2, 0, 0)));
    }

    private static ExtraCaste withText(String text) {
        ExtraCaste x = Edge.town();
        Check.weeks(x, "hour 2;any;");
        x.mark();
        x.hour(1);
        x.live(5);
        x.tray(0, 0, 2);
        x.falls(2);
        Check.feed(x, text);
        return x;
    }

    /** Promises 10, 11. */
    private static void status9AFault() {
        for (String text : new String[] {"!", "wage", "corner at;", "wage 100;", "wage 1;wage 1;"}) {
            ExtraCaste x = withText(text);
            Check.refused(x, "P10 " + text, x.city(text.length()), 9);
        }
        for (String text : new String[] {"!", "hour", "put z 1;", "hour 0;", "end;", "loop 1;"}) {
            ExtraCaste x = withText(text);
            Check.refused(x, "P11 " + text, x.weeks(text.length()), 9);
        }
    }

    /** Terms ==== 5: but city(), weeks() with 9 the tape, and what fault() tells. */
    private static void status9ChangesTheTapeAndTheFault() {
        ExtraCaste x = withText("wage 100;");
        ExtraCaste y = withText("");
        Check.refused(x, "P10", x.city(9), 9);
        Check.due("FAULT", x.fault(0), 4);
        Check.due("its place", x.fault(1), 5);
        Check.due("nothing else", rest(x).equals(rest(y)), true);
        x = withText("any;hour 0;");
        Check.refused(x, "P11", x.weeks(11), 9);
        Check.due("FAULT", x.fault(0), 4);
        Check.due("its place", x.fault(1), 9);
        Check.due("nothing else", rest(x).equals(rest(withText(""))), true);
    }

    /** What look() tells but fault(). */
    private static java.util.List<Long> rest(ExtraCaste x) {
        java.util.List<Long> all = Edge.look(x);
        return all.subList(2, all.size());
    }

    /** The other way round: look() tells what calls with STATUS 0 change. */
    private static void status0ChangesWhatItShould() {
        Edge.Asked[] calls = {x -> Edge.yes(x.tray(3, 0, 0)), x -> Edge.yes(x.tray(0, 1, 5)), x -> Edge.yes(x.write(0, 0, 1)),
            x -> Edge.yes(x.pour(0, 1, 0, 0, 1)), x -> x.feed(0, 0, 0, 0, 0), x -> x.city(8), x -> x.weeks(0), x -> x.hour(1),
            x -> Edge.yes(x.order(2, 2, true)), x -> x.put(1, 1), x -> Edge.yes(x.raise(1, 2)), x -> x.plan(0, 9, 1),
            x -> x.bear(0), x -> Edge.yes(x.post(0, 0)), x -> Edge.yes(x.scare(0, 6)), x -> Edge.yes(x.rule(5, 4)),
            x -> Edge.yes(x.rule(6, 3)), x -> Edge.yes(x.rule(7, 3)), x -> Edge.yes(x.falls(1)), x -> x.copyStanding(0),
            x -> x.live(0), x -> Edge.yes(x.mean(0, 1)), ExtraCaste::mark, ExtraCaste::undo};
        for (int i = 0; i < calls.length; i++) {
            ExtraCaste x = Edge.busy();
            calls[i].on(x);
            Check.due("call " + i + " is seen", Edge.look(x).equals(Edge.look(Edge.busy())), false);
        }
    }

    /** Terms ==== 5: the first of these that holds. */
    private static void theFirstThatHolds() {
        is(1, "1 ahead of 2", x -> Edge.yes(x.write(4, 0, 1)));
        is(1, "1 ahead of 2", x -> x.laws(3, 21));
        is(1, "1 ahead of 3", x -> x.lawFirst(2, -1));
        is(2, "2 ahead of 3", x -> x.read(3, 60));
        is(2, "2 ahead of 3", x -> x.laws(3, 20));
        is(3, "3 ahead of 5", x -> x.laws(0, 20));
        is(3, "3 ahead of 5", x -> x.explained(2));
        is(5, "5 ahead of 6", x -> x.sure(0));
        is(5, "5 ahead of 6", x -> x.lawFirst(0, 1));
        is(1, "1 ahead of 6", x -> x.road(3, 3));
        is(1, "1 ahead of 6", x -> x.far(3, 4));
        is(1, "1 ahead of 7", x -> x.cut(4, 4));
        is(1, "1 ahead of 7", x -> x.put(0, 100));
        is(1, "1 ahead of 7", x -> Edge.yes(x.raise(0, 0)));
        is(1, "1 ahead of 7", x -> x.attends(3, 1));
        is(1, "1 ahead of 9", x -> x.city(21));
        is(1, "1 ahead of 9", x -> x.weeks(-1));
        is(2, "2 ahead of 8", x -> Edge.yes(x.pour(1, 0, 3, 0, 1)));
        // P8 asks 8 ahead of 3.
        is(8, "8 ahead of 3", x -> Edge.yes(x.pour(0, 60, 1, 0, 1)));
    }

    /** Promise 9, Terms ==== 5: feed() gives NONE without a STATUS, and changes nothing. */
    private static void promise9WithoutAStatus() {
        Edge.Made full = () -> {
            ExtraCaste x = Edge.busy();
            Check.feed(x, Edge.many(" ", 880));
            x.told(14);
            return x;
        };
        ExtraCaste x = full.make();
        Check.due("more than 900", x.feed(-1, -1, -1, -1, -1), ExtraCaste.NONE);
        Check.due("status stays", x.status(), 1);
        Check.due("nothing changes", Edge.look(x).equals(Edge.look(full.make())), true);
    }
}
