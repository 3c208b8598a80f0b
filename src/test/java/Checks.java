/** What the tests share: the words that are tested, and answers held against those that are due. */
abstract class Checks {
    static final int LOW = -1000000000;
    static final int BEYOND = LOW - 1;
    static final int NONE = LOW - 2;
    static final int STATE = LOW - 3;
    static final int FULL = LOW - 4;
    static final int KIND = LOW - 5;
    static final int MIN = Integer.MIN_VALUE;
    static final int MAX = Integer.MAX_VALUE;

    private static String words = "";
    private static int held = 0;
    private static int wrong = 0;

    /** The document's own words, to which the answers that follow belong; SentencesTest looks them up there. */
    static void says(String documentWords) {
        words = documentWords;
    }

    static void due(String call, int got, int want) {
        held++;
        if (got != want) {
            wrong++;
            String where = words.isEmpty() ? "" : ": \"" + words + "\"";
            System.out.println(call + " answered " + got + ", due is " + want + where);
        }
    }

    static void end() {
        System.out.println(wrong == 0 ? "all " + held + " answers are as due" : wrong + " answers are not as due");
        if (wrong != 0) System.exit(1);
    }

    static void feedAll(FallingSlates x, String t) {
        for (int i = 0; i < t.length(); i += 8) {
            int n = Math.min(8, t.length() - i);
            long word = 0;
            for (int k = 0; k < n; k++) word |= (long) (t.charAt(i + k) & 255) << (8 * k);
            x.feed(word, n);
        }
    }

    static int read(FallingSlates x, int use, String t) {
        feedAll(x, t);
        return x.text(use);
    }

    /** What a text gives as the law, on a new object, with all names 0. */
    static int worth(String t) {
        FallingSlates x = new FallingSlates();
        int answer = read(x, 0, t);
        return answer == 1 ? x.law(0, 0, 0, 0, 0) : answer;
    }

    static void putAll(FallingSlates x, int sheet, int bits, int... row) {
        x.sheet(sheet, bits, row.length);
        for (int i = 0; i < row.length; i++) x.put(sheet, i, row[i]);
    }

    static void stand(FallingSlates x, int seller, int stock, int slate) {
        x.set(seller, 0, stock);
        x.set(seller, 2, slate);
    }

    static void goTo(FallingSlates x, int today) {
        while (x.count(0) < today) x.days(Math.min(60, today - x.count(0)));
    }
}
