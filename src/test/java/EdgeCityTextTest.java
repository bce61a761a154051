/**
 * Boundary cases of the Terms ==== 1: TOKENS, WORDS, NUMBERS, SIGNS, NAMES, how many of each thing a CITY has, the
 * FAULTS 1 to 6 and their places, and what a CITY that is taken begins with.
 */
public final class EdgeCityTextTest {
    private static final String P = "corner p;";
    private static final String PQ = "corner p;corner q;";
    private static final String ALL = PQ + "road p q takes 2;extra e at p;happening h at q hour 3 great 1;"
        + "watcher w at q fears 1;";

    public static void main(String[] args) {
        termsABlankIsTenOrThirtyTwo();
        termsTokensAsLongAsTheyGo();
        termsOneToFourDigits();
        termsNumbersThatCanBe();
        termsWithoutThem();
        termsNamesOfOneToEightLetters();
        termsNamesThatAreNone();
        termsOneNameIsOfOneThing();
        termsWhatAPartNames();
        termsHowManyOfEach();
        termsRoadsOfTheSameTwo();
        termsRosters();
        termsToldAlready();
        termsTheFirstAlongTheText();
        termsTheLeastKindOfOneToken();
        termsTheEndAtEachByte();
        termsWhatATakenCityBeginsWith();
        termsACityOfNothing();
        Check.end();
    }

    /** FAULT 1: no TOKEN begins so. Of all 256 bytes 10 and 32 are blank, letters, digits and four SIGNS begin one. */
    private static void termsABlankIsTenOrThirtyTwo() {
        for (int b = 0; b < 256; b++) {
            boolean blank = b == 10 || b == 32;
            boolean begins = b >= 'a' && b <= 'z' || b >= '0' && b <= '9' || ";<>=".indexOf(b) >= 0;
            String text = "odds 5;" + (char) b;
            if (blank) {
                Edge.cityFine(text, 0);
                Edge.cityFine("odds" + (char) b + "5" + (char) b + ";", 0);
                Edge.weeksFine("any" + (char) b + ";" + (char) b, 1);
            } else {
                Edge.cityFault("odds 5;", "" + (char) b, begins ? 2 : 1);
                Edge.weeksFault("any;", "" + (char) b, begins ? 2 : 1);
            }
        }
    }

    /** TOKENS, as long as they go, between them blanks: none where one ends by itself, as many as one likes else. */
    private static void termsTokensAsLongAsTheyGo() {
        Edge.cityFine("wage5;", 0);
        Edge.cityFine("wage 5 ;", 0);
        Edge.cityFine("\n\n  wage \n 5 \n ; \n", 0);
        Edge.cityFine("corner\nq\n;", 1);
        Edge.cityFine(P + "happening h at p hour7great1;", 1);
        Edge.cityFault("", "cornerp;", 2);
        Edge.cityFault("", "wa ge 5;", 2);
        Edge.cityFault("wage ", "w5;", 2);
        Edge.cityFault("wage 5 ", "6;", 2);
        Edge.cityFault("corner p ", "q;", 2);
        Edge.cityFault("corner p", "4;", 2);
        Edge.cityFault("corner ", "4p;", 2);
        Edge.cityFault("corner p", "Q;", 1);
        Edge.cityFault("wage 5;", ";", 2);
        Edge.cityFault("wage 5", ":", 1);
        Edge.cityFault("wage 5", "<;", 2);
    }

    /** NUMBERS have 1 to 4 digits; FAULT 1: a NUMBER of 5 digits and more, at its first, wherever it stands. */
    private static void termsOneToFourDigits() {
        for (String five : new String[] {"00000", "00001", "12345", "99999", "000000", "12345678901234567890"}) {
            Edge.cityFault("", five, 1);
            Edge.cityFault("wage ", five + ";", 1);
            Edge.cityFault("corner ", five + ";", 1);
            Edge.cityFault("corner p", five + ";", 1);
            Edge.cityFault("wage ", "3" + five + ";", 1);
        }
        for (String few : new String[] {"7", "07", "007", "0007"}) {
            ExtraCaste x = Check.cityOf("wage " + few + ";");
            Check.due("WAGE " + few, x.told(5), 7);
        }
        Edge.cityFine("wage 0000;", 0);
        Edge.cityFault("", "9999", 2);
        Edge.cityFault("wage ", "9999;", 4);
        Edge.cityFault("wage ", "0100;", 4);
        Edge.cityFault("delay ", "0000;", 4);
    }

    private static void numbers(String ahead, String behind, int least, int most) {
        Edge.cityFine(ahead + least + behind, ahead.startsWith(PQ) ? 2 : 0);
        Edge.cityFine(ahead + most + behind, ahead.startsWith(PQ) ? 2 : 0);
        if (least > 0) {
            Edge.cityFault(ahead, least - 1 + behind, 4);
        }
        Edge.cityFault(ahead, most + 1 + behind, 4);
        Edge.cityFault(ahead, 9999 + behind, 4);
        Edge.cityFault(ahead, 10000 + behind, 1);
        Edge.cityFault(ahead, behind.trim(), 2);
        Edge.cityFault(ahead, "w" + behind, 2);
        Edge.cityFault(ahead, "=" + behind, 2);
        Edge.cityFault(ahead, "-1" + behind, 1);
        // Where the NUMBER is the text's end, its own FAULT comes first.
        Edge.cityFault(ahead, "" + (most + 1), 4);
        Edge.cityFault(ahead + most, "", 2);
    }

    /** FAULT 4: a NUMBER that can't be; the least and the most that can. */
    private static void termsNumbersThatCanBe() {
        numbers("wage ", ";", 0, 99);
        numbers("delay ", ";", 1, 24);
        numbers("odds ", ";", 0, 16);
        numbers(PQ + "road p q takes ", ";", 1, 9);
        numbers(PQ + "happening h at p hour ", " great 1;", 0, 999);
        numbers(PQ + "happening h at p hour 1 great ", ";", 1, 4);
        numbers(PQ + "watcher w at p fears ", ";", 1, 7);
        ExtraCaste x = Check.cityOf("wage 99;delay 24;odds 16;" + PQ + "road p q takes 9;happening h at p hour 999 great 4;"
            + "happening i at p hour 0 great 1;watcher w at p fears 7;watcher v at p fears 1;");
        Check.due("WAGE", x.told(5), 99);
        Check.due("DELAY", x.told(6), 24);
        Check.due("ODDS", x.told(7), 16);
        Check.due("TAKES", x.road(0, 1), 9);
        Check.due("HOUR", x.happening(0, 1), 999);
        Check.due("GREAT", x.happening(0, 2), 4);
        Check.due("HOUR", x.happening(1, 1), 0);
        Check.due("GREAT", x.happening(1, 2), 1);
        Check.due("FEARS", x.watcher(0, 1), 7);
        Check.due("FEARS", x.watcher(1, 1), 1);
        x = Check.cityOf("wage 0;delay 1;odds 0;" + PQ + "road p q takes 1;");
        Check.due("WAGE", x.told(5), 0);
        Check.due("DELAY", x.told(6), 1);
        Check.due("ODDS", x.told(7), 0);
        Check.due("TAKES", x.road(0, 1), 1);
    }

    /** WAGE 1 without, DELAY 2 without, ODDS 1 without, each by itself, and not those of the CITY ahead. */
    private static void termsWithoutThem() {
        String[] texts = {"", "wage 7;", "delay 7;", "odds 7;", "wage 7;delay 7;", "odds 7;wage 7;", "delay 7;odds 7;"};
        ExtraCaste x = Check.cityOf("wage 9;delay 9;odds 9;");
        for (String text : texts) {
            Check.city(x, text);
            Check.due("WAGE of " + text, x.told(5), text.contains("wage") ? 7 : 1);
            Check.due("DELAY of " + text, x.told(6), text.contains("delay") ? 7 : 2);
            Check.due("ODDS of " + text, x.told(7), text.contains("odds") ? 7 : 1);
        }
    }

    /** NAME: a WORD of 1 to 8 letters. FAULT 2: of 9 letters and more where a NAME must stand. */
    private static void termsNamesOfOneToEightLetters() {
        String letters = "abcdefghijklmnopqrstuvwxyz";
        for (int n = 1; n <= 8; n++) {
            Edge.cityFine("corner " + letters.substring(0, n) + ";", 1);
            Edge.cityFine("corner " + letters.substring(26 - n) + ";", 1);
        }
        for (int n = 9; n <= 26; n++) {
            Edge.cityFault("corner ", letters.substring(0, n) + ";", 2);
        }
        String nine = "abcdefghi";
        for (String ahead : new String[] {"corner ", PQ + "road ", PQ + "road p ", P + "extra ", P + "extra e at ",
            P + "happening ", P + "happening h at ", P + "watcher ", P + "watcher w at ", P + "roster ",
            P + "extra e at p;roster e "}) {
            Edge.cityFault(ahead, nine, 2);
            Edge.cityFault(ahead, nine + nine + nine + ";", 2);
            Edge.cityFault(ahead, "7;", 2);
            Edge.cityFault(ahead, "<", 2);
            Edge.cityFault(ahead, "", 2);
        }
        // Names that are alike but for one letter, or for their length, are of several things.
        Edge.cityFine("corner aaaaaaaa;corner aaaaaaab;corner baaaaaaa;corner aaaaaaa;corner a;corner aa;corner b;"
            + "corner zzzzzzzz;", 8);
        ExtraCaste x = Check.cityOf("corner aaaaaaaa;corner aaaaaaab;corner baaaaaaa;corner aaaaaaa;corner a;corner aa;"
            + "corner z;corner zzzzzzzz;extra aaa at zzzzzzzz;extra ab at aaaaaaab;extra ac at aa;extra ad at aaaaaaa;");
        int[] at = {7, 1, 5, 3};
        for (int e = 0; e < at.length; e++) {
            Check.due("where EXTRA " + e + " is AT", x.extra(e, 0), at[e]);
        }
    }

    /** NAME: none of 25 WORDS; FAULT 2: it can't stand there. A letter more or less, and it is one. */
    private static void termsNamesThatAreNone() {
        Check.due("25 WORDS", Oracle.RESERVED.size(), 25);
        for (String word : Oracle.RESERVED) {
            Edge.cityFault("corner ", word + ";", 2);
            Edge.cityFault(PQ + "road ", word + ";", 2);
            Edge.cityFault(PQ + "road p ", word + ";", 2);
            Edge.cityFault(P + "extra ", word + ";", 2);
            Edge.cityFault(P + "extra e at ", word + ";", 2);
            Edge.cityFault(P + "happening ", word + ";", 2);
            Edge.cityFault(P + "watcher ", word + ";", 2);
            Edge.cityFault(P + "extra e at p;roster ", word + ";", 2);
            Edge.cityFault(P + "extra e at p;roster e ", word + ";", 2);
            if (word.length() < 8) {
                Edge.cityFine("corner " + word + "x;", 1);
                Edge.cityFine("corner x" + word + ";", 1);
            }
            String less = word.substring(0, word.length() - 1);
            if (!Oracle.RESERVED.contains(less)) {
                Edge.cityFine("corner " + less + ";", 1);
            }
        }
        Edge.cityFine("corner happenin;", 1);
        Edge.cityFine("corner appening;", 1);
    }

    /** One NAME is of one thing alone. FAULT 3: a new NAME that is taken, at it, of whichever thing. */
    private static void termsOneNameIsOfOneThing() {
        for (String name : new String[] {"p", "q", "e", "h", "w"}) {
            Edge.cityFault(ALL + "corner ", name + ";", 3);
            Edge.cityFault(ALL + "extra ", name + " at p;", 3);
            Edge.cityFault(ALL + "happening ", name + " at p hour 1 great 1;", 3);
            Edge.cityFault(ALL + "watcher ", name + " at p fears 1;", 3);
            Edge.cityFault(ALL + "watcher ", name, 3);
        }
        Edge.cityFine(ALL + "corner r;extra f at r;", 3);
    }

    /** FAULT 3: a NAME that is no such one told ahead; what a PART names must be told ahead. */
    private static void termsWhatAPartNames() {
        for (String name : new String[] {"e", "h", "w", "x"}) {
            Edge.cityFault(ALL + "road ", name + " p takes 1;", 3);
            Edge.cityFault(ALL + "road p ", name + " takes 1;", 3);
            Edge.cityFault(ALL + "extra f at ", name + ";", 3);
            Edge.cityFault(ALL + "happening i at ", name + " hour 1 great 1;", 3);
            Edge.cityFault(ALL + "watcher v at ", name + " fears 1;", 3);
        }
        for (String name : new String[] {"p", "h", "w", "x"}) {
            Edge.cityFault(ALL + "roster ", name + ";", 3);
        }
        for (String name : new String[] {"p", "e", "w", "x"}) {
            Edge.cityFault(ALL + "roster e ", name + ";", 3);
            Edge.cityFault(ALL + "roster e h ", name + ";", 3);
        }
        // What is told behind, or by the same PART, is not told ahead.
        Edge.cityFault("extra e at ", "p;corner p;", 3);
        Edge.cityFault(P + "road p ", "q takes 1;corner q;", 3);
        Edge.cityFault(P + "roster ", "e;extra e at p;", 3);
        Edge.cityFault(P + "extra e at p;roster e ", "h;happening h at p hour 1 great 1;", 3);
        Edge.cityFault(P + "extra e at ", "e;", 3);
        Edge.cityFault(P + "happening h at ", "h hour 1 great 1;", 3);
        Edge.cityFault(P + "watcher w at ", "w fears 1;", 3);
        // Nor is what the CITY ahead told: p, q, a, t are the old town's.
        Edge.cityFault("extra e at ", "p;", 3);
        Edge.cityFault("road ", "p q takes 1;", 3);
        Edge.cityFault(P + "roster ", "a;", 3);
        Edge.cityFine("corner a;corner t;extra p at a;", 2);
    }

    /** FAULT 6: a ninth corner, a 13th road, an eighth extra, a ninth happening, a fifth watcher, at that WORD. */
    private static void termsHowManyOfEach() {
        full("", "corner c#;", 8, 0);
        full(PQ, "road p q takes 1;", 12, 1);
        full(P, "extra e# at p;", 7, 2);
        full(P, "happening h# at p hour 1 great 1;", 8, 3);
        full(P, "watcher w# at p fears 1;", 4, 4);
        // Each is counted by itself, and what is full leaves room for all others.
        String most = Edge.many("corner c#;", 8) + Edge.many("road ca cb takes 1;", 12) + Edge.many("extra e# at ca;", 7)
            + Edge.many("happening h# at ca hour 1 great 1;", 8) + Edge.many("watcher w# at ca fears 1;", 4);
        Check.due("within 900 bytes", most.length() <= 900, true);
        Edge.cityFine(most, 8);
        ExtraCaste x = Check.cityOf(most);
        int[] told = {8, 12, 7, 8, 4};
        for (int what = 0; what < told.length; what++) {
            Check.due("told " + what, x.told(what), told[what]);
        }
        Edge.cityFault(most, "corner", 6);
        Edge.cityFault(most, "watcher", 6);
    }

    private static void full(String ahead, String part, int many, int what) {
        String text = ahead + Edge.many(part, many);
        ExtraCaste x = Check.cityOf(text);
        Check.due("the most of " + part, x.told(what), many);
        Check.due("none of " + part, Check.cityOf(ahead).told(what), what == 0 ? 0 : x.told(what) - many);
        String word = part.substring(0, part.indexOf(' '));
        Edge.cityFault(text, word, 6);
        Edge.cityFault(text, word + " !", 6);
        Edge.cityFault(text + " ", part.replace('#', 'z'), 6);
        Edge.cityFault(text, part.replace('#', 'a'), 6);
        Edge.cityFault(text + "wage 5;", word + " p p takes 0;", 6);
    }

    /** ROADS of the same two, both ways: the shortest counts, whichever is told first. */
    private static void termsRoadsOfTheSameTwo() {
        String[] orders = {"529", "259", "295", "952", "925", "592"};
        for (String order : orders) {
            ExtraCaste x = Check.cityOf(PQ + "road p q takes " + order.charAt(0) + ";road q p takes " + order.charAt(1)
                + ";road p q takes " + order.charAt(2) + ";");
            Check.fine(x, "p to q of " + order, x.road(0, 1), 2);
            Check.fine(x, "q to p of " + order, x.road(1, 0), 2);
            Check.fine(x, "FAR", x.far(1, 0), 2);
        }
        // FAULT 5: a road of a CORNER and itself, at the second NAME.
        Edge.cityFault(PQ + "road p ", "p takes 1;", 5);
        Edge.cityFault(PQ + "road q ", "q", 5);
    }

    /** ROSTER: none at first, of none to all, told again: the latest. FAULT 5: a HAPPENING twice behind one. */
    private static void termsRosters() {
        String many = P + "extra e at p;extra f at p;" + Edge.many("happening h# at p hour 1 great 1;", 8);
        ExtraCaste x = Check.cityOf(many + "roster e ha hb hc hd he hf hg hh;");
        Check.due("all eight", x.extra(0, 2), 255);
        Check.due("none at first", x.extra(1, 2), 0);
        x = Check.cityOf(many + "roster e hh;roster f ha hh;roster e;");
        Check.due("the latest, of none", x.extra(0, 2), 0);
        Check.due("the first and the last", x.extra(1, 2), 129);
        x = Check.cityOf(many + "roster e ha;roster e hb;");
        Check.due("the latest alone", x.extra(0, 2), 2);
        Edge.cityFault(many + "roster e ha ", "ha;", 5);
        Edge.cityFault(many + "roster e ha hb hc hd he hf hg hh ", "hh;", 5);
        Edge.cityFault(many + "roster e ha hb hc hd he hf hg hh ", "ha", 5);
        Edge.cityFault(many + "roster e ha hb hc hd he hf hg hh ", "hz", 3);
        Edge.cityFault(many + "roster e ha hb hc hd he hf hg hh ", "abcdefghi", 2);
        Edge.cityFault(many + "roster e ha hb hc hd he hf hg hh ", "extra", 2);
        Edge.cityFault(many + "roster e ha hb hc hd he hf hg hh", "", 2);
        Edge.cityFault(many + "roster e ", "= ha;", 2);
        Edge.cityFault(many + "roster e ha ", "> hb;", 2);
        Edge.cityFault(P + "extra e at p;roster e ", "e;", 3);
        Edge.cityFine(P + "extra e at p;roster e;roster e;", 1);
    }

    /** FAULT 5: wage, delay, odds told already, at that WORD, whatever comes behind it. */
    private static void termsToldAlready() {
        for (String word : new String[] {"wage", "delay", "odds"}) {
            String once = word + " 1;" + P;
            Edge.cityFault(once, word + " 1;", 5);
            Edge.cityFault(once, word + " 9999;", 5);
            Edge.cityFault(once, word, 5);
            Edge.cityFault(once, word + "!", 5);
            Edge.cityFault("wage 1;delay 1;odds 1;", word, 5);
            Edge.cityFault(word + " ", word + " 1;", 2);
        }
    }

    /** FAULTS, the first along the text. */
    private static void termsTheFirstAlongTheText() {
        Edge.cityFault("wage ", "100;!", 4);
        Edge.cityFault("wage ", "100!", 4);
        Edge.cityFault("corner ", "happening;corner p;corner p;", 2);
        Edge.cityFault(P + "corner ", "p!", 3);
        Edge.cityFault(P + "road p ", "x takes 0;", 3);
        Edge.cityFault(PQ + "road p q takes ", "0!", 4);
        Edge.cityFault(P + "extra e ", "p;!", 2);
        Edge.cityFault("wage 1;", "!wage 1;", 1);
        Edge.cityFault("wage 1;", "wage 1;!", 5);
        Edge.cityFault(Edge.many("corner c#;", 8) + "extra e at ", "e;corner", 3);
    }

    /** FAULTS, of one TOKEN the least kind. */
    private static void termsTheLeastKindOfOneToken() {
        // 1 ahead of 2: what can't stand there begins with no TOKEN, or has five digits.
        Edge.cityFault("", "12345", 1);
        Edge.cityFault("corner p", "12345", 1);
        Edge.cityFault("corner p ", "\t", 1);
        // 1 ahead of 4: of five digits, and too much.
        Edge.cityFault("wage ", "99999;", 1);
        // 2 ahead of 3: a NAME of nine letters that is no such one told ahead.
        Edge.cityFault(P + "extra e at ", "abcdefghi;", 2);
        Edge.cityFault(P + "extra e at ", "takes;", 2);
        // 3 ahead of 5: the second NAME of a ROAD that is none, behind one that is none.
        Edge.cityFault(P + "road ", "x x takes 1;", 3);
        // 5 and 6 never meet; a WORD that can't stand at all is 2, however full the CITY is.
        Edge.cityFault(Edge.many("corner c#;", 8), "corners", 2);
    }

    private static int[] faultOf(String text) {
        try {
            Oracle.readCity(text);
            return new int[] {0, ExtraCaste.NONE};
        } catch (Oracle.Fault f) {
            return new int[] {f.kind, f.place};
        }
    }

    /** FAULT 2, the end: the text's length. A text is cut, broken at each of its bytes; the Oracle tells what is due. */
    private static void termsTheEndAtEachByte() {
        String text = "wage 99;delay 24 ;odds 16;corner abcdefgh;corner q;\nroad abcdefgh q takes 9;extra e at q;"
            + "happening h at abcdefgh hour 999 great 4;watcher w at q fears 7;roster e h;roster e ; ";
        for (int n = 0; n <= text.length(); n++) {
            ExtraCaste x = new ExtraCaste();
            Check.feed(x, text);
            isFault(x, "the first " + n, x.city(n), faultOf(text.substring(0, n)));
            for (String put : new String[] {"!", "0", "00000", "x", ";", "<", " ", " e ", " 0 "}) {
                String broken = text.substring(0, n) + put + text.substring(n);
                isFault(x, broken, Check.city(x, broken), faultOf(broken));
            }
        }
        Edge.cityFault("wage", "", 2);
        Edge.cityFault("wage \n \n", "", 2);
        Edge.cityFault("wage 5", "", 2);
        Edge.cityFault(P + "extra e at p;roster e ", "", 2);
    }

    private static void isFault(ExtraCaste x, String what, int answer, int[] due) {
        Check.due(what + ": status", x.status(), due[0] == 0 ? 0 : 9);
        Check.due(what + ": answer", answer == ExtraCaste.NONE, due[0] != 0);
        Check.due(what + ": fault", x.fault(0), due[0]);
        Check.due(what + ": place", x.fault(1), due[1]);
    }

    /** A CITY that is taken: HOUR 0, all where they are AT, TO COME, nobody had wages or warned, no WEEKS. */
    private static void termsWhatATakenCityBeginsWith() {
        String city = "wage 5;" + PQ + "road p q takes 3;extra e at p;extra f at q;happening h at q hour 0 great 1;"
            + "happening i at q hour 9 great 1;watcher w at q fears 1;roster e i;";
        ExtraCaste x = Check.cityOf(city);
        Check.weeks(x, "hour 1;");
        x.live(0);
        x.bear(0);
        x.plan(0, 0, 1);
        int[] worked = {2, 1, 3, 3, 1, 5, 2, 1, 1, 6, 1, 0, 1, 5};
        int[] fresh = {2, 1, 2, 2, 1, 5, 2, 1, 0, 3, 0, 0, 0, 0};
        for (int what = 0; what < 14; what++) {
            Check.due("told " + what + " ahead", x.told(what), worked[what]);
        }
        Check.city(x, city);
        for (int what = 0; what < 14; what++) {
            Check.due("told " + what + " behind", x.told(what), fresh[what]);
        }
        int[] e = {0, 0, 2, 0, 0};
        int[] f = {1, 0, 0, 0, 0};
        for (int what = 0; what < 5; what++) {
            Check.due("e " + what, x.extra(0, what), e[what]);
            Check.due("f " + what, x.extra(1, what), f[what]);
        }
        Check.due("h to come", x.happening(0, 3), 0);
        Check.due("nobody warned", x.watcher(0, 2), 0);
        Check.refused(x, "no WEEKS", x.live(0), 6);
        Check.refused(x, "no WEEKS", x.mean(0, 1), 6);
    }

    /** CITY: {PART}, none of them, too. */
    private static void termsACityOfNothing() {
        for (String text : new String[] {"", " ", "\n", "  \n\n "}) {
            ExtraCaste x = Edge.town();
            Check.fine(x, "a CITY of no PART", Check.city(x, text), 0);
            int[] told = {0, 0, 0, 0, 0, 1, 2, 1, 0, 0, 0, 0, 0, 0};
            for (int what = 0; what < told.length; what++) {
                Check.fine(x, "told " + what, x.told(what), told[what]);
            }
            Check.refused(x, "no CORNER", x.standing(0), 1);
        }
    }
}
