import java.util.HashMap;
import java.util.Map;

/** Boundary cases of the text of WEEKS (Terms ==== 4), its FAULTS 1 to 4, 6, 7 and their places, and of promise 11: weeks(). */
public final class EdgeWeeksTextTest {
    private static final String DEEP = "loop 1;when over t;loop 1;";

    public static void main(String[] args) {
        termsNoneAtFirst();
        termsWeeksOfNoSteps();
        termsNumbersThatCanBe();
        termsNamesThatAreSuch();
        termsNamesAreOfTheCity();
        termsThirtySteps();
        termsThreeDeep();
        termsEndsAndBeginnings();
        termsWhatCannotStand();
        termsTheFirstAlongTheText();
        termsTheLeastKindOfOneToken();
        termsTheEndAtEachByte();
        promise11TheOldOnesStay();
        promise11InPlaceOfThoseAhead();
        Check.end();
    }

    /** Terms ==== 4: none at first; a CITY that is taken has none. */
    private static void termsNoneAtFirst() {
        Edge.refused("no WEEKS", ExtraCaste::new, x -> x.live(0), 6);
        Edge.refused("no WEEKS", Edge::town, x -> x.live(0), 6);
        Edge.refused("no WEEKS", Edge::town, x -> Edge.yes(x.mean(0, 1)), 6);
        ExtraCaste x = new ExtraCaste();
        Check.fine(x, "without a CITY", Check.weeks(x, "hour 1;any;stop;"), 3);
        Check.fine(x, "live", x.live(0), 3);
        Check.city(x, "");
        Check.refused(x, "a CITY has none", x.live(0), 6);
    }

    /** WEEKS: {STEP}, none of them, too. */
    private static void termsWeeksOfNoSteps() {
        Edge.weeksFine("", 0);
        Edge.weeksFine(" \n ", 0);
        ExtraCaste x = Edge.town();
        Check.weeks(x, "");
        Check.fine(x, "no STEPS, but WEEKS", x.live(0), 0);
        Check.fraction(x, "mean", x.mean(0, 20), 0, 1);
    }

    private static void numbers(String ahead, String behind, int steps, int least, int most) {
        Edge.weeksFine(ahead + least + behind, steps);
        Edge.weeksFine(ahead + most + behind, steps);
        if (least > 0) {
            Edge.weeksFault(ahead, least - 1 + behind, 4);
            Edge.weeksFault(ahead, 0 + behind, 4);
        }
        if (most < 9999) {
            Edge.weeksFault(ahead, most + 1 + behind, 4);
            Edge.weeksFault(ahead, 9999 + behind, 4);
        }
        Edge.weeksFine(ahead + (10000 + most + "").substring(1) + behind, steps);
        Edge.weeksFault(ahead, 10000 + behind, 1);
        Edge.weeksFault(ahead, 99999 + behind, 1);
        Edge.weeksFault(ahead, behind, 2);
        Edge.weeksFault(ahead, "w" + behind, 2);
        Edge.weeksFault(ahead, "-1" + behind, 1);
        Edge.weeksFault(ahead, "", 2);
        Edge.weeksFault(ahead + most, "", 2);
    }

    /** FAULT 4: a NUMBER that can't be: HOURS 1 to 48, put 1 to 99, loop 1 to 99, is 0 to 2, warned 0 to 9,999. */
    private static void termsNumbersThatCanBe() {
        numbers("hour ", ";", 1, 1, 48);
        numbers("put t ", ";", 1, 1, 99);
        numbers("loop ", ";end;", 1, 1, 99);
        numbers("when is t ", ";end;", 1, 0, 2);
        numbers("when warned w<", ";end;", 1, 0, 9999);
        numbers("when warned w > ", ";end;", 1, 0, 9999);
        numbers("when warned x =", ";any;end;", 2, 0, 9999);
    }

    /** FAULT 3: a NAME that is no such one; each place of a NAME with one of each other sort, and with none. */
    private static void termsNamesThatAreSuch() {
        // Of the town: CORNERS p, EXTRAS a, HAPPENINGS t, WATCHERS w; there is no z.
        noSuch("order ", " t;", "a");
        noSuch("order a ", ";", "t");
        noSuch("put ", " 1;", "t");
        noSuch("when is ", " 1;end;", "t");
        noSuch("when over ", ";end;", "t");
        noSuch("when stands ", " p;end;", "a");
        noSuch("when stands a ", ";end;", "p");
        noSuch("when warned ", "<1;end;", "w");
    }

    private static void noSuch(String ahead, String behind, String such) {
        Edge.weeksFine(ahead + such + behind, 1);
        for (String name : new String[] {"p", "a", "t", "w", "z", "abcdefgh"}) {
            if (!name.equals(such)) {
                Edge.weeksFault(ahead, name + behind, 3);
                Edge.weeksFault(ahead, name, 3);
            }
        }
        Edge.weeksFault(ahead, "abcdefghi" + behind, 2);
        Edge.weeksFault(ahead, "happening" + behind, 2);
        Edge.weeksFault(ahead, "at" + behind, 2);
        Edge.weeksFault(ahead, "5" + behind, 2);
        Edge.weeksFault(ahead, ";", 2);
        Edge.weeksFault(ahead, "", 2);
        Edge.weeksFault(ahead, "#", 1);
    }

    /** A NAME of the CITY that is there now, the last of each thing, too; one planned, one born has none. */
    private static void termsNamesAreOfTheCity() {
        String full = Edge.many("corner c#;", 8) + Edge.many("extra e# at ca;", 7)
            + Edge.many("happening h# at ca hour 1 great 1;", 8) + Edge.many("watcher w# at ca fears 1;", 4);
        ExtraCaste x = Check.cityOf(full);
        Check.fine(x, "the last", Check.weeks(x, "order eg hh;put hh 1;when stands eg ch;end;when warned wd<1;end;"), 4);
        Check.fine(x, "the first", Check.weeks(x, "order ea ha;put ha 1;when stands ea ca;end;when warned wa<1;end;"), 4);
        Check.refused(x, "one behind the last", Check.weeks(x, "put hi 1;"), 9);
        Check.due("no such one", x.fault(0), 3);
        x = Edge.town();
        x.mark();
        Check.city(x, "corner p;extra t at p;");
        Check.refused(x, "of the CITY ahead", Check.weeks(x, "put t 1;"), 9);
        Check.due("no such one", x.fault(0), 3);
        x.undo();
        Check.fine(x, "of the CITY that is back", Check.weeks(x, "put t 1;"), 1);
    }

    /** FAULT 6: a 31st STEP, at its WORD; end is none. */
    private static void termsThirtySteps() {
        String thirty = Edge.many("any;", 30);
        Edge.weeksFine(Edge.many("any;", 29), 29);
        Edge.weeksFine(thirty, 30);
        for (String word : new String[] {"any", "hour", "order", "put", "when", "loop", "stop"}) {
            Edge.weeksFault(thirty, word, 6);
            Edge.weeksFault(thirty, word + " ?", 6);
            Edge.weeksFault(Edge.many("stop;", 29) + "loop 1;", word, 6);
        }
        Edge.weeksFine(Edge.many("stop;", 29) + "loop 1;end;", 30);
        Edge.weeksFine(Edge.many("loop 1;end;", 25) + Edge.many("any;", 5), 30);
        Edge.weeksFault(Edge.many("loop 1;end;", 25) + Edge.many("any;", 5), "any;", 6);
        Edge.weeksFine("loop 1;" + Edge.many("any;", 29) + "end;", 30);
        Edge.weeksFault("loop 1;" + Edge.many("any;", 29), "any;end;", 6);
        // What is no STEP is 2 all the same.
        Edge.weeksFault(thirty, "end;", 2);
        Edge.weeksFault(thirty, "anyy;", 2);
        Edge.weeksFault(thirty, "wage 1;", 2);
    }

    /** FAULT 7: a when, loop within three others, at its WORD; three deep is fine, however often. */
    private static void termsThreeDeep() {
        String[] openings = {"loop 1;", "when over t;"};
        for (int bits = 0; bits < 8; bits++) {
            String three = openings[bits & 1] + openings[bits >> 1 & 1] + openings[bits >> 2];
            Edge.weeksFine(three + "end;end;end;", 3);
            Edge.weeksFine(three + "any;end;any;end;any;end;any;", 7);
            for (String fourth : openings) {
                Edge.weeksFault(three, fourth + "end;end;end;end;", 7);
                Edge.weeksFault(three + "any;", fourth, 7);
                Edge.weeksFine(three + "end;" + fourth + "end;end;end;", 4);
                Edge.weeksFine(three + "end;end;" + fourth + fourth + "end;end;end;", 5);
                Edge.weeksFine(three + "end;end;end;" + fourth + "end;", 4);
                Edge.weeksFault(three + "end;" + fourth, fourth, 7);
                Edge.weeksFault(three + "end;end;" + fourth + fourth, fourth, 7);
            }
            Edge.weeksFault(three, "when", 7);
            Edge.weeksFault(three, "loop 0;", 7);
        }
    }

    /** FAULT 2: an end without a beginning; the text's end ahead of an end. */
    private static void termsEndsAndBeginnings() {
        Edge.weeksFault("", "end;", 2);
        Edge.weeksFault("any;", "end;", 2);
        Edge.weeksFault("loop 1;end;", "end;", 2);
        Edge.weeksFault(DEEP + "end;end;end;", "end;", 2);
        Edge.weeksFault("loop 1;", "", 2);
        Edge.weeksFault("loop 1; \n ", "", 2);
        Edge.weeksFault("loop 1;any;", "", 2);
        Edge.weeksFault(DEEP + "end;end;", "", 2);
        Edge.weeksFault("loop 1;end", "", 2);
        Edge.weeksFault("loop 1;end ", "any;", 2);
        Edge.weeksFault("loop 1;end ", "1;", 2);
        Edge.weeksFine(DEEP + "end;end;end;", 3);
        Edge.weeksFine("loop 1;end ;", 1);
    }

    /** FAULT 2: it can't stand there. */
    private static void termsWhatCannotStand() {
        for (String word : new String[] {"wage", "delay", "odds", "corner", "road", "takes", "extra", "at", "happening", "great",
            "watcher", "fears", "roster", "is", "stands", "over", "warned", "a", "z", "abcdefghi"}) {
            Edge.weeksFault("", word + " 1;", 2);
            Edge.weeksFault("any;", word + ";", 2);
        }
        for (String word : new String[] {"any", "hour", "t", "when", "happens", "1", ";", "="}) {
            Edge.weeksFault("when ", word + " t;end;", 2);
        }
        Edge.weeksFault("any ", "1;", 2);
        Edge.weeksFault("stop ", "t;", 2);
        Edge.weeksFault("hour ", "t;", 2);
        Edge.weeksFault("hour 1 ", "2;", 2);
        Edge.weeksFault("order a t ", "u;", 2);
        Edge.weeksFault("when warned w ", "1;end;", 2);
        Edge.weeksFault("when warned w ", ";1;end;", 2);
        Edge.weeksFault("when warned w<", "=1;end;", 2);
        Edge.weeksFault("when warned w ", "over 1;end;", 2);
        Edge.weeksFault("when is t ", "<1;end;", 2);
        Edge.weeksFault("when over t ", "1;end;", 2);
        Edge.weeksFault("", ";", 2);
        Edge.weeksFault("any;", ";", 2);
    }

    /** FAULTS, the first along the text. */
    private static void termsTheFirstAlongTheText() {
        Edge.weeksFault("hour ", "0;?", 4);
        Edge.weeksFault("order ", "z t;?", 3);
        Edge.weeksFault("any;", "?end;", 1);
        Edge.weeksFault("any;", "end;?", 2);
        Edge.weeksFault(DEEP, "loop 0;?", 7);
        Edge.weeksFault(DEEP + "any;", "?loop 1;", 1);
        Edge.weeksFault("loop ", "100;any;", 4);
        Edge.weeksFault("put ", "z", 3);
    }

    /** FAULTS, of one TOKEN the least kind. */
    private static void termsTheLeastKindOfOneToken() {
        // A 31st STEP that is a when, loop within three others.
        Edge.weeksFault(DEEP + Edge.many("any;", 27), "loop 1;", 6);
        Edge.weeksFault(DEEP + Edge.many("any;", 27), "when over t;", 6);
        Edge.weeksFault(DEEP + Edge.many("any;", 26), "loop 1;", 7);
        // Five digits where a NUMBER, another TOKEN must stand.
        Edge.weeksFault("hour ", "00000;", 1);
        Edge.weeksFault("order ", "00000;", 1);
        // Nine letters where a NAME must stand.
        Edge.weeksFault("put ", "abcdefghi 1;", 2);
    }

    private static Map<String, String> names() {
        Map<String, String> names = new HashMap<>();
        String[] all = {"p c0", "q c1", "r c2", "s c3", "a e0", "b e1", "c e2", "t h0", "u h1", "v h2", "w w0", "x w1"};
        for (String one : all) {
            names.put(one.substring(0, 1), one.substring(2));
        }
        return names;
    }

    private static int[] faultOf(String text) {
        try {
            new Oracle().readWeeks(text, names());
            return new int[] {0, ExtraCaste.NONE};
        } catch (Oracle.Fault f) {
            return new int[] {f.kind, f.place};
        }
    }

    /** A text is cut, broken at each of its bytes; the Oracle tells what is due. */
    private static void termsTheEndAtEachByte() {
        String text = "hour 48;order a t;put u 99;loop 9;when is v 2;any;when stands a q;end;end ;stop;end;\n"
            + "when over t;end;when warned x = 9999;any ;end;when warned w>0;loop 1;end;end; ";
        for (int n = 0; n <= text.length(); n++) {
            ExtraCaste x = Edge.town();
            Check.feed(x, text);
            isFault(x, "the first " + n, x.weeks(n), faultOf(text.substring(0, n)));
            for (String put : new String[] {"!", "0", "00000", "z", ";", "<", " ", " t ", " 0 ", " end ", "loop 1;"}) {
                String broken = text.substring(0, n) + put + text.substring(n);
                isFault(x, broken, Check.weeks(x, broken), faultOf(broken));
            }
        }
    }

    private static void isFault(ExtraCaste x, String what, int answer, int[] due) {
        Check.due(what + ": status", x.status(), due[0] == 0 ? 0 : 9);
        Check.due(what + ": answer", answer == ExtraCaste.NONE, due[0] != 0);
        Check.due(what + ": fault", x.fault(0), due[0]);
        Check.due(what + ": place", x.fault(1), due[1]);
    }

    /** Promise 11, Terms ==== 5: with a FAULT the old WEEKS stay, and the CITY as it is. */
    private static void promise11TheOldOnesStay() {
        ExtraCaste x = Edge.town();
        Check.weeks(x, "hour 3;");
        for (String text : new String[] {"hour 4;!", "hour 4;hour 0;", "loop 9;hour 9;", "hour 1;end;", "put z 9;"}) {
            Check.refused(x, text, Check.weeks(x, text), 9);
            Check.fine(x, "the old ones", x.live(0), 1);
            Check.fine(x, "their HOURS", x.lived(1), 3);
        }
        Check.refused(x, "a CITY with a FAULT", Check.city(x, "corner"), 9);
        Check.fine(x, "leaves them, too", x.live(0), 1);
        ExtraCaste y = Edge.town();
        Check.refused(y, "a FAULT", Check.weeks(y, "hour 0;"), 9);
        Check.refused(y, "and none ahead", y.live(0), 6);
    }

    /** Promise 11: the new ones alone, behind longer ones, behind ones that were open when they failed. */
    private static void promise11InPlaceOfThoseAhead() {
        ExtraCaste x = Edge.town();
        Check.fine(x, "thirty", Check.weeks(x, Edge.many("hour 1;", 30)), 30);
        Check.fine(x, "one", Check.weeks(x, "hour 2;"), 1);
        Check.fine(x, "live", x.live(0), 1);
        Check.due("HOUR", x.told(8), 2);
        Check.refused(x, "three open", Check.weeks(x, DEEP), 9);
        Check.fine(x, "three deep", Check.weeks(x, DEEP + "end;end;end;"), 3);
        Check.fine(x, "none", Check.weeks(x, ""), 0);
        Check.fine(x, "live", x.live(0), 0);
    }
}
