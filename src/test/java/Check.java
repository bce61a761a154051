/** What the tests share: counting of answers that are not as due, and texts for the tape. */
final class Check {
    private static int wrong;
    private static int asked;

    private Check() {
    }

    static void due(String call, long got, long want) {
        asked++;
        if (got != want) {
            wrong++;
            System.out.println(call + " answered " + got + ", due is " + want);
        }
    }

    static void due(String call, boolean got, boolean want) {
        due(call, got ? 1L : 0L, want ? 1L : 0L);
    }

    /** A call that is refused: NONE with a STATUS. */
    static void refused(ExtraCaste caste, String call, long got, int status) {
        due(call, got, ExtraCaste.NONE);
        due(call + ": status", caste.status(), status);
    }

    static void refused(ExtraCaste caste, String call, boolean got, int status) {
        due(call, got, false);
        due(call + ": status", caste.status(), status);
    }

    /** A call that is answered with STATUS 0. */
    static void fine(ExtraCaste caste, String call, long got, long want) {
        due(call, got, want);
        due(call + ": status", caste.status(), 0);
    }

    static void fine(ExtraCaste caste, String call, boolean got) {
        due(call, got, true);
        due(call + ": status", caste.status(), 0);
    }

    static void fraction(ExtraCaste caste, String call, boolean got, long top, long bottom) {
        fine(caste, call, got);
        due(call + ": top", caste.top(), top);
        due(call + ": bottom", caste.bottom(), bottom);
    }

    static void feed(ExtraCaste caste, String text) {
        feed(caste, text.getBytes(java.nio.charset.StandardCharsets.ISO_8859_1));
    }

    static void feed(ExtraCaste caste, byte[] text) {
        int[] word = new int[5];
        for (int at = 0; at < text.length; at += 20) {
            for (int i = 0; i < 5; i++) {
                word[i] = 0;
                for (int k = 0; k < 4; k++) {
                    int place = at + 4 * i + k;
                    word[i] = word[i] << 8 | (place < text.length ? text[place] & 255 : 0);
                }
            }
            caste.feed(word[0], word[1], word[2], word[3], word[4]);
        }
    }

    static int city(ExtraCaste caste, String text) {
        feed(caste, text);
        return caste.city(text.length());
    }

    static int weeks(ExtraCaste caste, String text) {
        feed(caste, text);
        return caste.weeks(text.length());
    }

    static ExtraCaste cityOf(String text) {
        ExtraCaste caste = new ExtraCaste();
        city(caste, text);
        due("city " + text, caste.status(), 0);
        return caste;
    }

    static void end() {
        System.out.println(asked + " asked, " + wrong + " not as due");
        if (wrong != 0) {
            System.exit(1);
        }
    }
}
