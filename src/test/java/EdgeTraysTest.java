/** Boundary cases of the Terms' TRAYS (==== 1) and of promises 5 to 8: tray(), write(), read(), pour(). */
public final class EdgeTraysTest {
    private static final long[] LEAST = {Byte.MIN_VALUE, Short.MIN_VALUE, Integer.MIN_VALUE, Long.MIN_VALUE};
    private static final long[] MOST = {Byte.MAX_VALUE, Short.MAX_VALUE, Integer.MAX_VALUE, Long.MAX_VALUE};

    public static void main(String[] args) {
        termsAllAreMissingAtFirst();
        termsNoneToSixtyNumbers();
        promise5IsARowOfZerosEachTime();
        promise6AsksForThePlaceLast();
        promise6CutsToTheSort();
        promise6WritesOnePlaceAlone();
        promise7TellsNoneFromMinusOne();
        promise8ToTheLastPlace();
        promise8NoneAtTheEnd();
        promise8WithinItself();
        promise8AsksInItsOrder();
        promise8TakesNumbersAsTheyWere();
        Check.end();
    }

    /** Terms ==== 1: TRAYS 0 to 3 are MISSING at first. */
    private static void termsAllAreMissingAtFirst() {
        for (int tray = 0; tray < 4; tray++) {
            int t = tray;
            Edge.refused("read of a MISSING one", ExtraCaste::new, x -> x.read(t, 0), 2);
            Edge.refused("write to a MISSING one", ExtraCaste::new, x -> Edge.yes(x.write(t, 0, 1)), 2);
            Edge.refused("pour from a MISSING one", ExtraCaste::new, x -> Edge.yes(x.pour(t, 0, t, 0, 0)), 2);
            Edge.taken("tray", ExtraCaste::new, x -> Edge.yes(x.tray(t, 0, 0)), 1);
        }
        ExtraCaste x = new ExtraCaste();
        x.tray(2, 0, 1);
        for (int tray = 0; tray < 4; tray++) {
            x.read(tray, 0);
            Check.due("TRAY " + tray + ", as 2 alone is laid", x.status(), tray == 2 ? 0 : 2);
        }
        Check.refused(x, "P5 a refused one", x.tray(1, 0, 61), 1);
        Check.refused(x, "stays MISSING", x.read(1, 0), 2);
    }

    private static ExtraCaste laid(int sort, int many) {
        ExtraCaste x = new ExtraCaste();
        Check.fine(x, "tray of " + many, x.tray(1, sort, many));
        return x;
    }

    /** Terms ==== 1: rows of 0 to 60 numbers. The last place is one less, the first that it has not is 3. */
    private static void termsNoneToSixtyNumbers() {
        for (int sort = 0; sort < 4; sort++) {
            for (int many : new int[] {0, 1, 2, 59, 60}) {
                int s = sort;
                Edge.Made made = () -> laid(s, many);
                Edge.refused("P7 place " + many, made, x -> x.read(1, many), 3);
                Edge.refused("P6 place " + many, made, x -> Edge.yes(x.write(1, many, 5)), 3);
                Edge.refused("P7 place -1", made, x -> x.read(1, -1), 3);
                Edge.refused("P6 place -1", made, x -> Edge.yes(x.write(1, -1, 5)), 3);
                Edge.refused("P7 place most", made, x -> x.read(1, Integer.MAX_VALUE), 3);
                Edge.refused("P6 place least", made, x -> Edge.yes(x.write(1, Integer.MIN_VALUE, 5)), 3);
                if (many > 0) {
                    Edge.taken("P7 the last place", made, x -> x.read(1, many - 1), 0);
                    Edge.taken("P6 the last place", made, x -> Edge.yes(x.write(1, many - 1, 5)), 1);
                    Edge.taken("P6 the first place", made, x -> Edge.yes(x.write(1, 0, 5)), 1);
                }
            }
        }
        Edge.refused("P5 61 numbers", () -> laid(0, 60), x -> Edge.yes(x.tray(1, 0, 61)), 1);
        Edge.refused("P5 -1 numbers", () -> laid(0, 60), x -> Edge.yes(x.tray(1, 0, -1)), 1);
    }

    /** Promise 5: a row of so many 0s, whatever it was ahead. */
    private static void promise5IsARowOfZerosEachTime() {
        ExtraCaste x = laid(3, 60);
        for (int i = 0; i < 60; i++) {
            x.write(1, i, -1);
        }
        x.tray(1, 2, 0);
        Check.refused(x, "a row of none", x.read(1, 0), 3);
        x.tray(1, 0, 60);
        for (int i = 0; i < 60; i++) {
            Check.fine(x, "0 in " + i, x.read(1, i), 0);
        }
        x.write(1, 0, 300);
        Check.fine(x, "of the new sort", x.read(1, 0), 44);
    }

    /** Promise 6, Terms ==== 5: 1, then 2, then 3. */
    private static void promise6AsksForThePlaceLast() {
        Edge.refused("no such TRAY, a place too high", () -> laid(0, 1), x -> Edge.yes(x.write(4, 1, 0)), 1);
        Edge.refused("no such TRAY, a place too low", () -> laid(0, 1), x -> x.read(-1, -1), 1);
        Edge.refused("MISSING, a place too high", () -> laid(0, 1), x -> Edge.yes(x.write(3, 60, 0)), 2);
        Edge.refused("MISSING, a place too low", () -> laid(0, 1), x -> x.read(3, -1), 2);
        Edge.refused("a place too low", () -> laid(0, 1), x -> x.read(1, -1), 3);
    }

    /** Promise 6: cut to its sort, where the number wraps around, on both sides. */
    private static void promise6CutsToTheSort() {
        for (int sort = 0; sort < 4; sort++) {
            ExtraCaste x = laid(sort, 1);
            long[][] pairs = {{MOST[sort], MOST[sort]}, {MOST[sort] + 1, LEAST[sort]}, {LEAST[sort], LEAST[sort]},
                {LEAST[sort] - 1, MOST[sort]}, {0, 0}, {-1, -1}, {2 * MOST[sort] + 1, -1}, {2 * MOST[sort] + 2, 0}};
            for (long[] pair : pairs) {
                Check.fine(x, "sort " + sort + " write " + pair[0], x.write(1, 0, pair[0]));
                Check.fine(x, "sort " + sort + " read " + pair[0], x.read(1, 0), pair[1]);
            }
        }
        ExtraCaste x = laid(0, 1);
        x.write(1, 0, Long.MAX_VALUE);
        Check.fine(x, "the most of 64 bits in 8", x.read(1, 0), -1);
        x.write(1, 0, Long.MIN_VALUE);
        Check.fine(x, "the least of 64 bits in 8", x.read(1, 0), 0);
    }

    /** Promise 6: a number comes to a place, and to no other one, of no other TRAY. */
    private static void promise6WritesOnePlaceAlone() {
        ExtraCaste x = new ExtraCaste();
        for (int tray = 0; tray < 4; tray++) {
            x.tray(tray, tray, 60);
        }
        x.write(1, 0, 7);
        x.write(1, 59, 8);
        for (int tray = 0; tray < 4; tray++) {
            for (int place : new int[] {0, 1, 58, 59}) {
                int due = tray != 1 ? 0 : place == 0 ? 7 : place == 59 ? 8 : 0;
                Check.fine(x, "TRAY " + tray + " place " + place, x.read(tray, place), due);
            }
        }
    }

    /** Promise 7: STATUS tells NONE from -1. */
    private static void promise7TellsNoneFromMinusOne() {
        ExtraCaste x = laid(0, 1);
        x.write(1, 0, -1);
        Check.fine(x, "-1 is a number", x.read(1, 0), -1);
        Check.refused(x, "NONE is none", x.read(1, 1), 3);
        Check.fine(x, "-1 again", x.read(1, 0), -1);
    }

    private static ExtraCaste poured() {
        ExtraCaste x = new ExtraCaste();
        x.tray(0, 1, 5);
        x.tray(1, 1, 3);
        x.tray(2, 2, 5);
        for (int i = 0; i < 5; i++) {
            x.write(0, i, 11 + i);
        }
        return x;
    }

    private static void holds(ExtraCaste x, int tray, long... numbers) {
        for (int i = 0; i < numbers.length; i++) {
            Check.fine(x, "TRAY " + tray + " place " + i, x.read(tray, i), numbers[i]);
        }
    }

    /** Promise 8: as far as both TRAYS have places; one more is 3. */
    private static void promise8ToTheLastPlace() {
        ExtraCaste x = poured();
        Check.fine(x, "all places of the other one", x.pour(0, 0, 1, 0, 3));
        holds(x, 1, 11, 12, 13);
        Check.fine(x, "the last number to the last place", x.pour(0, 4, 1, 2, 1));
        holds(x, 1, 11, 12, 15);
        Check.fine(x, "all of its own", x.pour(0, 0, 0, 0, 5));
        holds(x, 0, 11, 12, 13, 14, 15);
        Edge.refused("one place too few", EdgeTraysTest::poured, y -> Edge.yes(y.pour(0, 0, 1, 0, 4)), 3);
        Edge.refused("one number too few", EdgeTraysTest::poured, y -> Edge.yes(y.pour(1, 0, 0, 0, 4)), 3);
        Edge.refused("from the last, two", EdgeTraysTest::poured, y -> Edge.yes(y.pour(0, 4, 0, 0, 2)), 3);
        Edge.refused("to the last, two", EdgeTraysTest::poured, y -> Edge.yes(y.pour(0, 0, 0, 4, 2)), 3);
        Edge.refused("from behind the last", EdgeTraysTest::poured, y -> Edge.yes(y.pour(0, 5, 1, 0, 1)), 3);
        Edge.refused("to behind the last", EdgeTraysTest::poured, y -> Edge.yes(y.pour(0, 0, 1, 3, 1)), 3);
        int most = Integer.MAX_VALUE;
        Edge.refused("place and many wrap around", EdgeTraysTest::poured, y -> Edge.yes(y.pour(0, most, 0, 0, most)), 3);
        Edge.refused("at and many wrap around", EdgeTraysTest::poured, y -> Edge.yes(y.pour(0, 0, 0, most, 1)), 3);
        Edge.refused("many most", EdgeTraysTest::poured, y -> Edge.yes(y.pour(0, 1, 0, 1, most)), 3);
        ExtraCaste z = new ExtraCaste();
        z.tray(0, 3, 60);
        z.tray(3, 3, 60);
        z.write(0, 0, 5);
        z.write(0, 59, 6);
        Check.fine(z, "sixty", z.pour(0, 0, 3, 0, 60));
        Check.fine(z, "the first of sixty", z.read(3, 0), 5);
        Check.fine(z, "the last of sixty", z.read(3, 59), 6);
        Check.refused(z, "sixty-one", z.pour(0, 0, 3, 0, 61), 3);
    }

    /** Promise 8: so many numbers may be none, just behind the last place, too. */
    private static void promise8NoneAtTheEnd() {
        Edge.taken("none from behind the last", EdgeTraysTest::poured, x -> Edge.yes(x.pour(0, 5, 1, 0, 0)), 1);
        Edge.taken("none to behind the last", EdgeTraysTest::poured, x -> Edge.yes(x.pour(0, 0, 1, 3, 0)), 1);
        Edge.refused("none from beyond", EdgeTraysTest::poured, x -> Edge.yes(x.pour(0, 6, 1, 0, 0)), 3);
        Edge.refused("none to beyond", EdgeTraysTest::poured, x -> Edge.yes(x.pour(0, 0, 1, 4, 0)), 3);
        ExtraCaste x = poured();
        x.pour(0, 0, 1, 0, 0);
        holds(x, 1, 0, 0, 0);
    }

    /** Promise 8: to its own place on, as the numbers were ahead. */
    private static void promise8WithinItself() {
        ExtraCaste x = poured();
        Check.fine(x, "upwards", x.pour(0, 0, 0, 1, 4));
        holds(x, 0, 11, 11, 12, 13, 14);
        x = poured();
        Check.fine(x, "downwards", x.pour(0, 1, 0, 0, 4));
        holds(x, 0, 12, 13, 14, 15, 15);
        x = poured();
        Check.fine(x, "from the first to the last", x.pour(0, 0, 0, 4, 1));
        holds(x, 0, 11, 12, 13, 14, 11);
    }

    /** Promise 8: 1 (below 0, too), 2, 8, 3, asked in this order. */
    private static void promise8AsksInItsOrder() {
        Edge.refused("1 ahead of 2", EdgeTraysTest::poured, x -> Edge.yes(x.pour(3, -1, 0, 0, 1)), 1);
        Edge.refused("1 ahead of 2", EdgeTraysTest::poured, x -> Edge.yes(x.pour(3, 0, 0, 0, -1)), 1);
        Edge.refused("1 ahead of 8", EdgeTraysTest::poured, x -> Edge.yes(x.pour(0, 0, 2, -1, 1)), 1);
        Edge.refused("1 ahead of 3", EdgeTraysTest::poured, x -> Edge.yes(x.pour(0, 9, 1, -1, 1)), 1);
        Edge.refused("no such TRAY ahead of 2", EdgeTraysTest::poured, x -> Edge.yes(x.pour(3, 0, 4, 0, 1)), 1);
        Edge.refused("2 ahead of 8", EdgeTraysTest::poured, x -> Edge.yes(x.pour(2, 0, 3, 0, 1)), 2);
        Edge.refused("2 ahead of 3", EdgeTraysTest::poured, x -> Edge.yes(x.pour(0, 9, 3, 0, 1)), 2);
        Edge.refused("2, from", EdgeTraysTest::poured, x -> Edge.yes(x.pour(3, 0, 0, 0, 1)), 2);
        Edge.refused("8 ahead of 3", EdgeTraysTest::poured, x -> Edge.yes(x.pour(0, 9, 2, 0, 1)), 8);
        Edge.refused("8 alone", EdgeTraysTest::poured, x -> Edge.yes(x.pour(0, 0, 2, 0, 1)), 8);
        Edge.refused("8, the other way round", EdgeTraysTest::poured, x -> Edge.yes(x.pour(2, 0, 0, 0, 0)), 8);
        Edge.refused("3 alone", EdgeTraysTest::poured, x -> Edge.yes(x.pour(0, 3, 1, 0, 3)), 3);
        Edge.taken("0", EdgeTraysTest::poured, x -> Edge.yes(x.pour(0, 3, 1, 0, 2)), 1);
    }

    /** Promise 8: as they were, the least and the most of each sort, too. */
    private static void promise8TakesNumbersAsTheyWere() {
        for (int sort = 0; sort < 4; sort++) {
            ExtraCaste x = new ExtraCaste();
            x.tray(0, sort, 2);
            x.tray(1, sort, 2);
            x.write(0, 0, LEAST[sort]);
            x.write(0, 1, MOST[sort]);
            Check.fine(x, "pour", x.pour(0, 0, 1, 0, 2));
            holds(x, 1, LEAST[sort], MOST[sort]);
            holds(x, 0, LEAST[sort], MOST[sort]);
        }
    }
}
