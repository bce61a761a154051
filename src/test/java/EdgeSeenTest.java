/** Boundary cases of EXPLAINED, SURE, LAWS (Terms ==== 3) and of promises 44 to 47: explained(), sure(), laws(), lawFirst(). */
public final class EdgeSeenTest {
    public static void main(String[] args) {
        promises44And45FewerNumbersThanCorners();
        promises44And45NoCorners();
        promises44And45BelowNoneAboveNinetyNine();
        promises44And45ByNoSetToAll();
        promise45ByNoSet();
        promises44And45OnlyThoseToCome();
        promises46And47NoneToTwentyThrees();
        promises46And47TooFewNumbers();
        promises46And47WhatCannotBe();
        promises46And47RoundedUp();
        promises46And47AllToNone();
        Check.end();
    }

    private static ExtraCaste laid(String city, int tray, int sort, long... numbers) {
        ExtraCaste x = Check.cityOf(city);
        fill(x, tray, sort, numbers);
        return x;
    }

    private static void fill(ExtraCaste x, int tray, int sort, long... numbers) {
        x.tray(tray, sort, numbers.length);
        for (int i = 0; i < numbers.length; i++) {
            x.write(tray, i, numbers[i]);
        }
    }

    /** Promises 44, 45: 1, 2, 3: fewer numbers than CORNERS, 5, in this order. */
    private static void promises44And45FewerNumbersThanCorners() {
        for (int corners = 1; corners <= 8; corners++) {
            String city = Edge.many("corner c#;", corners);
            long[] enough = new long[corners];
            long[] few = new long[corners - 1];
            long[] more = new long[corners + 1];
            more[corners] = -1;
            Edge.taken("as many", () -> laid(city, 3, 0, enough), x -> x.explained(3), 1);
            Edge.taken("as many", () -> laid(city, 3, 0, enough), x -> x.sure(3), 0);
            Edge.taken("more, whatever they are", () -> laid(city, 3, 0, more), x -> x.explained(3), 1);
            Edge.taken("more, whatever they are", () -> laid(city, 3, 0, more), x -> x.sure(3), 0);
            Edge.refused("one too few", () -> laid(city, 3, 0, few), x -> x.explained(3), 3);
            Edge.refused("one too few", () -> laid(city, 3, 0, few), x -> x.sure(3), 3);
            Edge.refused("MISSING", () -> laid(city, 3, 0, few), x -> x.explained(2), 2);
            Edge.refused("MISSING", () -> laid(city, 3, 0, few), x -> x.sure(2), 2);
        }
        Edge.refused("3 ahead of 5", () -> laid("corner p;corner q;", 0, 0, -1), x -> x.explained(0), 3);
        Edge.refused("3 ahead of 5", () -> laid("corner p;corner q;", 0, 0, -1), x -> x.sure(0), 3);
        Edge.refused("1", () -> laid("corner p;", 0, 0, 0), x -> x.explained(4), 1);
        Edge.refused("1", () -> laid("corner p;", 0, 0, 0), x -> x.sure(-1), 1);
    }

    /** Promises 44, 45: of no CORNERS no number is asked, but a TRAY is. */
    private static void promises44And45NoCorners() {
        Edge.Made none = () -> {
            ExtraCaste x = new ExtraCaste();
            x.tray(0, 3, 0);
            x.tray(1, 0, 1);
            x.write(1, 0, -1);
            return x;
        };
        Edge.taken("by the set of none", none, x -> x.explained(0), 1);
        Edge.taken("the set of none", none, x -> x.sure(0), 0);
        Edge.taken("whatever else it holds", none, x -> x.explained(1), 1);
        Edge.refused("MISSING", none, x -> x.explained(2), 2);
        Edge.refused("MISSING", none, x -> x.sure(3), 2);
    }

    /** Promises 44, 45: 5: below 0, above 99, at each of the CORNERS; 6 comes behind it. */
    private static void promises44And45BelowNoneAboveNinetyNine() {
        String city = "corner p;corner q;corner r;";
        for (int at = 0; at < 3; at++) {
            for (long off : new long[] {-1, 100, Long.MIN_VALUE, Long.MAX_VALUE, 1L << 32, 256}) {
                long[] numbers = new long[3];
                numbers[at] = off;
                Edge.refused(off + " at " + at, () -> laid(city, 1, 3, numbers), x -> x.explained(1), 5);
                Edge.refused(off + " at " + at, () -> laid(city, 1, 3, numbers), x -> x.sure(1), 5);
            }
            for (long on : new long[] {1, 99}) {
                long[] numbers = new long[3];
                numbers[at] = on;
                Edge.taken(on + " at " + at, () -> laid(city, 1, 3, numbers), x -> x.explained(1), 0);
                Edge.refused(on + " at " + at, () -> laid(city, 1, 3, numbers), x -> x.sure(1), 6);
            }
        }
        Edge.taken("0", () -> laid(city, 1, 3, 0, 0, 0), x -> x.explained(1), 1);
        // Cut to 8 bits 200 is below 0.
        Edge.refused("200 of 8 bits", () -> laid(city, 1, 0, 200, 0, 0), x -> x.explained(1), 5);
        Edge.refused("200 of 16 bits", () -> laid(city, 1, 1, 200, 0, 0), x -> x.explained(1), 5);
        Edge.taken("256 of 8 bits is 0", () -> laid(city, 1, 0, 256, 0, 0), x -> x.explained(1), 1);
    }

    /** Terms ==== 3: by how many sets, from none to those of eight alike. */
    private static void promises44And45ByNoSetToAll() {
        String eight = "corner p;" + Edge.many("happening h# at p hour 9 great 4;", 8);
        int[] sets = {1, 8, 28, 56, 70, 56, 28, 8, 1};
        for (int many = 0; many <= 8; many++) {
            ExtraCaste x = laid(eight, 0, 0, 4 * many);
            Check.fine(x, many + " of eight", x.explained(0), sets[many]);
            Check.fine(x, many + " of eight", x.sure(0), many == 8 ? 255 : 0);
            fill(x, 0, 0, 4 * many + 1);
            Check.fine(x, "one more than " + many, x.explained(0), 0);
            fill(x, 0, 0, Math.max(0, 4 * many - 1));
            Check.fine(x, "one less than " + many, x.explained(0), many == 0 ? 1 : 0);
        }
        // Two CORNERS: each by itself.
        String two = "corner p;corner q;happening a at p hour 1 great 1;happening b at q hour 1 great 1;"
            + "happening c at q hour 1 great 2;happening d at q hour 1 great 3;";
        ExtraCaste x = laid(two, 0, 0, 1, 3);
        Check.fine(x, "b c, d", x.explained(0), 2);
        Check.fine(x, "a", x.sure(0), 1);
        fill(x, 0, 0, 0, 6);
        Check.fine(x, "all at q", x.explained(0), 1);
        Check.fine(x, "all at q", x.sure(0), 14);
        fill(x, 0, 0, 2, 6);
        Check.fine(x, "too many at p", x.explained(0), 0);
    }

    /** Promise 45: 6: by no set; the empty one is a set. */
    private static void promise45ByNoSet() {
        Edge.refused("too many", () -> laid("corner p;", 0, 0, 1), x -> x.sure(0), 6);
        Edge.taken("none", () -> laid("corner p;", 0, 0, 0), x -> x.sure(0), 0);
        Edge.taken("the answer of how many is 0", () -> laid("corner p;", 0, 0, 1), x -> x.explained(0), 0);
    }

    /** Terms ==== 3: sets of HAPPENINGS TO COME, those that were to be ahead of now, too. */
    private static void promises44And45OnlyThoseToCome() {
        ExtraCaste x = laid("corner p;extra e at p;happening a at p hour 0 great 1;happening b at p hour 0 great 2;"
            + "happening c at p hour 9 great 3;", 0, 0, 3);
        Check.fine(x, "a b, c", x.explained(0), 2);
        x.hour(1);
        Check.fine(x, "c alone", x.explained(0), 1);
        Check.fine(x, "c", x.sure(0), 4);
        x.plan(0, 0, 3);
        Check.fine(x, "what was to be ahead of now, too", x.explained(0), 2);
        Check.fine(x, "neither for sure", x.sure(0), 0);
        x.hour(9);
        Check.fine(x, "that alone", x.sure(0), 8);
    }

    private static long[] threes(int many, long great, long behind, long happened) {
        long[] numbers = new long[3 * many];
        for (int i = 0; i < many; i++) {
            numbers[3 * i] = great;
            numbers[3 * i + 1] = behind;
            numbers[3 * i + 2] = happened;
        }
        return numbers;
    }

    /** Promises 46, 47: the first n (0 to 20) threes; those behind do not count. */
    private static void promises46And47NoneToTwentyThrees() {
        long[] twenty = threes(20, 1, 9, 1);
        twenty[58] = 0;
        ExtraCaste x = laid("", 2, 0, twenty);
        Check.fine(x, "none", x.laws(2, 0), 81);
        Check.fine(x, "none", x.lawFirst(2, 0), 11);
        Check.fine(x, "nineteen", x.laws(2, 19), 81);
        Check.fine(x, "nineteen", x.lawFirst(2, 19), 11);
        Check.fine(x, "the twentieth counts", x.laws(2, 20), 0);
        Check.refused(x, "the twentieth counts", x.lawFirst(2, 20), 6);
        Check.refused(x, "21", x.laws(2, 21), 1);
        Check.refused(x, "21", x.lawFirst(2, 21), 1);
        Check.refused(x, "-1", x.laws(2, -1), 1);
        Check.refused(x, "-1", x.lawFirst(2, -1), 1);
        int most = Integer.MAX_VALUE;
        Check.refused(x, "three times n wraps around", x.laws(2, most / 3 * 2 + 2), 1);
        Check.refused(x, "three times n wraps around", x.lawFirst(2, most), 1);
    }

    /** Promises 46, 47: 3: three numbers for each of the n; 1 ahead of 2 ahead of 3 ahead of 5. */
    private static void promises46And47TooFewNumbers() {
        for (int n = 1; n <= 5; n++) {
            int k = n;
            for (int less = 1; less <= 3; less++) {
                long[] numbers = new long[3 * n - less];
                Edge.refused("too few for " + n, () -> laid("", 0, 0, numbers), x -> x.laws(0, k), 3);
                Edge.refused("too few for " + n, () -> laid("", 0, 0, numbers), x -> x.lawFirst(0, k), 3);
            }
            Edge.taken("enough", () -> laid("", 0, 0, threes(k, 4, 4, 1)), x -> x.lawFirst(0, k), 11);
            Edge.refused("of them wrong", () -> laid("", 0, 0, threes(k, 0, 0, 0)), x -> x.laws(0, k), 5);
        }
        Edge.refused("59 for 20", () -> laid("", 0, 0, new long[59]), x -> x.laws(0, 20), 3);
        Edge.refused("MISSING", ExtraCaste::new, x -> x.laws(0, 0), 2);
        Edge.refused("MISSING", ExtraCaste::new, x -> x.lawFirst(0, 20), 2);
        Edge.refused("1 ahead of 2", ExtraCaste::new, x -> x.laws(0, 21), 1);
        Edge.refused("1 ahead of 2", ExtraCaste::new, x -> x.lawFirst(0, -1), 1);
        Edge.refused("no such TRAY", ExtraCaste::new, x -> x.lawFirst(4, 0), 1);
        Edge.taken("an empty TRAY for none", () -> laid("", 0, 0), x -> x.laws(0, 0), 81);
        Edge.taken("an empty TRAY for none", () -> laid("", 0, 0), x -> x.lawFirst(0, 0), 11);
    }

    /** Promises 46, 47: 5: GREAT 1 to 4, behind 0 to 99, happened 1 or 0, in each of the n threes. */
    private static void promises46And47WhatCannotBe() {
        long[][] off = {{0, 0, 5}, {0, 0, -1}, {0, 0, 0}, {1, 0, -1}, {1, 0, 100}, {2, 0, -1}, {2, 0, 2},
            {0, 0, 1L << 32 | 1}, {1, 0, Long.MIN_VALUE}, {2, 0, Long.MAX_VALUE}};
        for (int n = 1; n <= 3; n++) {
            int k = n;
            for (long[] o : off) {
                long[] numbers = threes(3, 1, 9, 1);
                numbers[3 * (n - 1) + (int) o[0]] = o[2];
                Edge.refused(o[2] + " of three " + n, () -> laid("", 0, 3, numbers), x -> x.laws(0, k), 5);
                Edge.refused(o[2] + " of three " + n, () -> laid("", 0, 3, numbers), x -> x.lawFirst(0, k), 5);
                Edge.taken("three " + n + " is not asked", () -> laid("", 0, 3, numbers), x -> x.laws(0, k - 1), 81);
            }
        }
        for (long great = 1; great <= 4; great++) {
            for (long behind : new long[] {0, 99}) {
                for (long happened = 0; happened <= 1; happened++) {
                    long[] numbers = {great, behind, happened};
                    // Nobody is never enough, 99 always are, as 4 times 9 by 1 is 36.
                    int due = (behind == 99) == (happened == 1) ? 81 : 0;
                    Edge.taken("the ends", () -> laid("", 0, 0, numbers), x -> x.laws(0, 1), due);
                }
            }
        }
    }

    /** Terms ==== 3: as many as GREAT times a by b, rounded up, or more. */
    private static void promises46And47RoundedUp() {
        for (int great = 1; great <= 4; great++) {
            for (int behind = 0; behind <= 37; behind++) {
                int many = 0;
                int first = 0;
                for (int a = 9; a >= 1; a--) {
                    for (int b = 9; b >= 1; b--) {
                        int enough = great * a / b + (great * a % b == 0 ? 0 : 1);
                        if (behind >= enough) {
                            many++;
                            first = 10 * a + b;
                        }
                    }
                }
                ExtraCaste x = laid("", 0, 0, great, behind, 1, great, behind, 0);
                Check.fine(x, behind + " behind " + great, x.laws(0, 1), many);
                if (many > 0) {
                    Check.fine(x, "the FIRST", x.lawFirst(0, 1), first);
                } else {
                    Check.refused(x, "none", x.lawFirst(0, 1), 6);
                }
                Check.fine(x, "it happened, and it did not", x.laws(0, 2), 0);
                x.write(0, 2, 0);
                Check.fine(x, "it did not", x.laws(0, 1), 81 - many);
            }
        }
    }

    /** Promise 47: 6: none; the last couple of all is 9 by 1, ahead of it in the order are those of a lesser a. */
    private static void promises46And47AllToNone() {
        ExtraCaste x = laid("", 0, 0, 4, 35, 0, 4, 36, 1);
        Check.fine(x, "9 by 1 alone", x.laws(0, 2), 1);
        Check.fine(x, "9 by 1", x.lawFirst(0, 2), 91);
        fill(x, 0, 0, 4, 36, 0);
        Check.fine(x, "none asks for 37", x.laws(0, 1), 0);
        Check.refused(x, "none asks for 37", x.lawFirst(0, 1), 6);
        // 1 by 4 to 9, 2 by 8, 2 by 9.
        fill(x, 0, 0, 1, 1, 1, 4, 1, 1, 4, 0, 0);
        Check.fine(x, "4a by b, rounded up, is 1", x.laws(0, 3), 8);
        Check.fine(x, "the least a, then the least b", x.lawFirst(0, 3), 14);
        fill(x, 0, 0, 1, 0, 1);
        Check.fine(x, "nobody is never enough", x.laws(0, 1), 0);
    }
}
