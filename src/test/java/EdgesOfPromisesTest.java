/** Promises 1 to 25, sentence by sentence: each that names an edge has a test of its own. */
public final class EdgesOfPromisesTest extends Checks {
    public static void main(String[] args) {
        newObject();
        seller();
        ofSeller();
        set();
        as();
        may();
        sort();
        ofSort();
        sortsUpToTheEnd();
        sortsAsTold();
        sortsWithRoom();
        sortsOfNoSheet();
        now();
        feedLowestBytes();
        feedFull();
        text();
        textInPlace();
        textRefused();
        law();
        days();
        year();
        then();
        waits();
        earned();
        lost();
        begin();
        right();
        tenth();
        gains();
        down();
        first();
        end();
    }

    private static void newObject() {
        says("All as at first; no SELLERS, SORTS.");
        FallingSlates x = new FallingSlates();
        int[] counts = {0, 0, 0, 0, 0, 0, 0, 0, 1};
        for (int what = 0; what < counts.length; what++) due("count(" + what + ")", x.count(what), counts[what]);
        for (int k = 1; k <= 5; k++) due("told(" + k + ")", x.told(k), 0);
        due("no SELLERS", x.ofSeller(0, 0), BEYOND);
        due("no SORTS", x.ofSort(0, 0), BEYOND);
        due("SEASON", x.now(0, 0), 0);
        for (int s = 1; s <= 3; s++) due("HEAT", x.now(s, 10), 10);
        due("UP", x.now(4, 0), 0);
        due("no LAW of its own", x.law(0, 1, 0, 0, 1), 1);
        due("no BUYS of its own", x.law(1, 1, 0, 0, 1), 0);
        due("no IMAGE", x.restore(), NONE);
        due("no TRACE", x.trace(0), NONE);
        for (int s = 0; s <= 3; s++) due("no SHEET", x.put(s, 0, 0), NONE);
        due("none wait", x.check(0), 0);
        due("an empty TAPE", x.text(0), -10);
        FallingSlates y = new FallingSlates();
        y.seller(0, 0, 0);
        y.now(1, 40);
        due("another object is nothing to it", x.count(1), 0);
        due("another object is nothing to it", x.now(1, 10), 10);
    }

    private static void seller() {
        says("A SELLER: its number. cm: 10 * COST, and MAKES. BEYOND. FULL.");
        int[][] cms = {{0, 0, 0}, {9, 0, 9}, {10, 1, 0}, {19, 1, 9}, {9990, 999, 0}, {9999, 999, 9}};
        FallingSlates x = new FallingSlates();
        int[] beyond = {-1, -10, 10000, MIN, MAX};
        for (int cm : beyond) due("cm " + cm, x.seller(0, 0, cm), BEYOND);
        for (int i = 0; i < 6; i++) {
            due("its number", x.seller(i, 99 - i, cms[i][0]), i);
            due("KIND", x.ofSeller(i, 0), i);
            due("m", x.ofSeller(i, 1), 99 - i);
            due("COST of " + cms[i][0], x.ofSeller(i, 2), cms[i][1]);
            due("MAKES of " + cms[i][0], x.ofSeller(i, 3), cms[i][2]);
            due("STOCK", x.ofSeller(i, 4), 0);
            due("PURSE", x.ofSeller(i, 5), 0);
            due("SLATE", x.ofSeller(i, 6), -1);
        }
        due("FULL", x.seller(0, 0, 0), FULL);
        due("BEYOND ahead of FULL", x.seller(0, 0, 10000), BEYOND);
        due("six", x.count(1), 6);
    }

    private static void ofSeller() {
        says("Of a SELLER: 0 KIND, 1 m, 2 COST, 3 MAKES, 4 STOCK, 5 PURSE, 6 what is on the SLATE (-1: nothing), "
            + "7 what it WOULD ask now, 8 what it would ASK now. BEYOND.");
        FallingSlates x = new FallingSlates();
        x.seller(5, 60, 4003);
        int[] first = {5, 60, 400, 3, 0, 0, -1, 500, 500};
        for (int what = 0; what <= 8; what++) due("of a new one " + what, x.ofSeller(0, what), first[what]);
        stand(x, 0, 60, 300);
        x.set(0, 1, -7);
        int[] later = {5, 60, 400, 3, 60, -7, 300, 400, 300};
        for (int what = 0; what <= 8; what++) due("of it later " + what, x.ofSeller(0, what), later[what]);
        due("what 9", x.ofSeller(0, 9), BEYOND);
        due("what -1", x.ofSeller(0, -1), BEYOND);
        due("seller 1", x.ofSeller(1, 0), BEYOND);
        due("seller -1", x.ofSeller(-1, 0), BEYOND);
        x.seller(6, 70, 2310);
        x.set(1, 2, 300);
        due("NEWLY would ask anew", x.ofSeller(1, 7), 900);
        due("NEWLY would ASK anew", x.ofSeller(1, 8), 900);
        due("its SLATE stays", x.ofSeller(1, 6), 300);
        due("now: without what is made later", hurriedBelow20(), 270);
    }

    private static int hurriedBelow20() {
        FallingSlates x = new FallingSlates();
        x.seller(3, 30, 9);
        stand(x, 0, 19, 300);
        return x.ofSeller(0, 8);
    }

    private static void set() {
        says("STOCK (what 0), PURSE (1), SLATE (2; -1: nothing) of a SELLER becomes v: what it was. BEYOND.");
        FallingSlates x = new FallingSlates();
        x.seller(0, 0, 0);
        x.seller(0, 0, 0);
        int[][] fits = {{0, 99}, {99000, 99999999, -99999999}, {0, 999, -1}};
        int[][] not = {{-1, 100, MIN, MAX}, {100000000, -100000000, MIN, MAX}, {-2, 1000, MIN, MAX}};
        int[] was = {0, 0, -1};
        for (int what = 0; what <= 2; what++) {
            int last = was[what];
            for (int v : fits[what]) {
                due("set(1, " + what + ", " + v + ")", x.set(1, what, v), last);
                due("it is so", x.ofSeller(1, 4 + what), v);
                last = v;
            }
            for (int v : not[what]) due("set(1, " + what + ", " + v + ")", x.set(1, what, v), BEYOND);
            due("it stays so", x.ofSeller(1, 4 + what), last);
            due("the other's stays", x.ofSeller(0, 4 + what), was[what]);
        }
        due("what 3", x.set(1, 3, 0), BEYOND);
        due("what -1", x.set(1, -1, 0), BEYOND);
        due("seller 2", x.set(2, 0, 0), BEYOND);
        due("seller -1", x.set(-1, 0, 0), BEYOND);
    }

    private static void as() {
        says("A SELLER as one of a KIND: m. BEYOND. KIND: it isn't of that KIND, nor of one under it.");
        FallingSlates x = new FallingSlates();
        x.seller(3, 0, 0);
        x.seller(2, 99, 0);
        due("its own", x.as(0, 3), 0);
        due("the one above", x.as(0, 2), 0);
        due("the one above all", x.as(0, 0), 0);
        due("beside", x.as(0, 1), KIND);
        due("below", x.as(1, 3), KIND);
        due("its own", x.as(1, 2), 99);
        due("kind 6", x.as(0, 6), KIND);
        due("kind 7", x.as(0, 7), BEYOND);
        due("kind -1", x.as(0, -1), BEYOND);
        due("seller 2", x.as(2, 0), BEYOND);
        due("BEYOND ahead of KIND", x.as(2, 6), BEYOND);
        due("seller -1", x.as(-1, 0), BEYOND);
        due("told of KIND", x.told(5), 3);
    }

    private static void may() {
        says("Whether a SELLER MAY ask a price (0 to 999): 1, 0. BEYOND.");
        FallingSlates x = new FallingSlates();
        due("no SELLER", x.may(0, 0), BEYOND);
        x.seller(0, 0, 0);
        x.set(0, 2, 300);
        due("0", x.may(0, 0), 1);
        due("300", x.may(0, 300), 1);
        due("301", x.may(0, 301), 0);
        due("999", x.may(0, 999), 0);
        due("1000", x.may(0, 1000), BEYOND);
        due("-1", x.may(0, -1), BEYOND);
        due("seller 1", x.may(1, 0), BEYOND);
        due("seller -1", x.may(-1, 0), BEYOND);
        read(x, 0, "7");
        due("1, not 7", x.may(0, 999), 1);
        read(x, 0, "0-7");
        due("1, not -7", x.may(0, 999), 1);
        x.set(0, 2, -1);
        due("1000 with nothing on it", x.may(0, 1000), BEYOND);
    }

    private static void sort() {
        says("A SORT: its number. BEYOND. FULL.");
        FallingSlates x = new FallingSlates();
        int[][] beyond = {{-1, 0, 0}, {10, 0, 0}, {0, -1, 0}, {0, 1000, 0}, {0, 0, -1}, {0, 0, 10}, {MIN, 0, 0}, {0, MAX, 0}};
        for (int[] b : beyond) due("BEYOND", x.sort(b[0], b[1], b[2]), BEYOND);
        due("none came", x.count(2), 0);
        for (int i = 0; i < 8; i++) {
            due("its number", x.sort(i % 2 * 9, i % 3 * 499, i), i);
            due("COME", x.ofSort(i, 0), i % 2 * 9);
            due("WORTH", x.ofSort(i, 1), i % 3 * 499);
            due("STAYS", x.ofSort(i, 2), i);
            due("WAITING", x.ofSort(i, 3), 0);
        }
        due("FULL", x.sort(0, 0, 0), FULL);
        for (int[] b : beyond) due("BEYOND ahead of FULL", x.sort(b[0], b[1], b[2]), BEYOND);
        due("eight", x.count(2), 8);
    }

    private static void ofSort() {
        says("Of a SORT: 0 COME, 1 WORTH, 2 STAYS, 3 WAITING, 4 FEELS. BEYOND.");
        FallingSlates x = new FallingSlates();
        due("no SORT", x.ofSort(0, 0), BEYOND);
        x.sort(9, 999, 8);
        x.sort(1, 2, 3);
        x.now(1, 7);
        x.days(2);
        int[] of = {9, 999, 8, 18, 699};
        int[] other = {1, 2, 3, 2, 1};
        for (int what = 0; what <= 4; what++) due("of the first " + what, x.ofSort(0, what), of[what]);
        for (int what = 0; what <= 4; what++) due("of the second " + what, x.ofSort(1, what), other[what]);
        due("what 5", x.ofSort(0, 5), BEYOND);
        due("what -1", x.ofSort(0, -1), BEYOND);
        due("sort 2", x.ofSort(2, 0), BEYOND);
        due("sort -1", x.ofSort(-1, 0), BEYOND);
    }

    private static void sortsUpToTheEnd() {
        says("SORTS from a SHEET: threes (COME, WORTH, STAYS), from number 0 on,");
        says("or isn't whole,");
        for (int n = 0; n <= 8; n++) {
            FallingSlates x = new FallingSlates();
            int[] row = {1, 200, 3, 4, 500, 6, 7, 800};
            putAll(x, 2, 16, java.util.Arrays.copyOf(row, n));
            due(n + " numbers", x.sorts(2), n / 3);
            due(n + " numbers: SORTS", x.count(2), n / 3);
            for (int i = 0; i < n / 3 * 3; i++) due(n + " numbers: " + i, x.ofSort(i / 3, i % 3), row[i]);
        }
        FallingSlates x = new FallingSlates();
        putAll(x, 0, 8, 1, 2, 3);
        due("once", x.sorts(0), 1);
        due("from number 0 again", x.sorts(0), 1);
        due("the second is as the first", x.ofSort(1, 1), 2);
    }

    private static void sortsAsTold() {
        says("up to the first that isn't as told,");
        int[][] wrong = {{-1, 5, 5}, {10, 5, 5}, {5, -1, 5}, {5, 1000, 5}, {5, 5, -1}, {5, 5, 10}, {MIN, 5, 5}, {5, MAX, 5}};
        int[][] right = {{0, 5, 5}, {9, 5, 5}, {5, 0, 5}, {5, 999, 5}, {5, 5, 0}, {5, 5, 9}};
        for (int[] w : wrong) {
            FallingSlates x = new FallingSlates();
            putAll(x, 1, 32, 1, 2, 3, w[0], w[1], w[2], 4, 5, 6);
            due("none behind it", x.sorts(1), 1);
            due("the one ahead of it", x.ofSort(0, 1), 2);
            due("one", x.count(2), 1);
            putAll(x, 1, 32, w[0], w[1], w[2], 4, 5, 6);
            due("none at all", x.sorts(1), 0);
            due("no ERROR", x.told(1), 0);
        }
        for (int[] r : right) {
            FallingSlates x = new FallingSlates();
            putAll(x, 1, 16, 1, 2, 3, r[0], r[1], r[2], 4, 5, 6);
            due("all", x.sorts(1), 3);
            for (int i = 0; i < 3; i++) due("as told", x.ofSort(1, i), r[i]);
        }
    }

    private static void sortsWithRoom() {
        says("or has no room: how many came.");
        for (int there = 0; there <= 8; there++) {
            FallingSlates x = new FallingSlates();
            for (int i = 0; i < there; i++) x.sort(1, 1, 1);
            putAll(x, 3, 8, new int[40]);
            due("13 threes with " + there, x.sorts(3), 8 - there);
            due("eight", x.count(2), 8);
            due("no ERROR", x.told(4), 0);
            due("no more", x.sorts(3), 0);
        }
    }

    private static void sortsOfNoSheet() {
        says("BEYOND: no such SHEET. NONE: it is missing.");
        FallingSlates x = new FallingSlates();
        int[] no = {-1, 4, MIN, MAX};
        for (int s : no) due("no SHEET " + s, x.sorts(s), BEYOND);
        for (int s = 0; s <= 3; s++) due("missing", x.sorts(s), NONE);
        x.sheet(3, 8, 0);
        due("not missing, but empty", x.sorts(3), 0);
        x.sheet(3, 0, 5);
        due("missing again", x.sorts(3), NONE);
        due("BEYOND", x.told(1), 4);
        due("NONE", x.told(2), 5);
    }

    private static void now() {
        says("SEASON (what 0), HEAT of SEASON 0, 1, 2 (1, 2, 3), UP (4) becomes v: what it was. BEYOND.");
        int[] first = {0, 10, 10, 10, 0};
        int[] most = {2, 40, 40, 40, 999};
        FallingSlates x = new FallingSlates();
        for (int what = 0; what <= 4; what++) {
            due("what it was at first " + what, x.now(what, most[what]), first[what]);
            due("one too many " + what, x.now(what, most[what] + 1), BEYOND);
            due("-1 " + what, x.now(what, -1), BEYOND);
            due("the least of all " + what, x.now(what, MIN), BEYOND);
            due("the most of all " + what, x.now(what, MAX), BEYOND);
            due("what it was " + what, x.now(what, 0), most[what]);
            due("0 " + what, x.now(what, what % 3), 0);
        }
        for (int what = 0; what <= 4; what++) due("each its own " + what, x.now(what, 0), what % 3);
        due("what 5", x.now(5, 0), BEYOND);
        due("what -1", x.now(-1, 0), BEYOND);
    }

    private static void feedLowestBytes() {
        says("The n lowest bytes (1 .. 8) of a word, the lowest first, come to THE TAPE: how many there are.");
        String eight = "9-1-1+43";
        int[] values = {9, -1, 8, -1, 7, -1, 11, 50};
        for (int n = 1; n <= 8; n++) {
            FallingSlates x = new FallingSlates();
            long word = 0;
            for (int k = 0; k < 8; k++) word |= (long) (k < n ? eight.charAt(k) : 'X') << (8 * k);
            due("how many", x.feed(word, n), n);
            due("on the tape", x.count(5), n);
            due("the text", x.text(0), n == 2 || n == 4 || n == 6 ? -10 - n : 1);
            if (n % 2 == 1 || n == 8) due("its value", x.law(0, 0, 0, 0, 0), values[n - 1]);
        }
        FallingSlates x = new FallingSlates();
        due("one", x.feed(-1L << 8 | '1', 1), 1);
        due("behind it", x.feed(-1L << 16 | '+' | '2' << 8, 2), 3);
        due("both", x.text(0), 1);
        due("1+2", x.law(0, 0, 0, 0, 0), 3);
        due("a byte of 255", x.feed(-1L, 8), 8);
        due("at 0", x.text(0), -10);
        due("the eighth byte of 128 and more", x.feed(0xFF31312B31313131L, 8), 8);
        due("at 7", x.text(0), -17);
        int[] no = {0, 9, -1, MIN, MAX};
        for (int n : no) due("n " + n, x.feed(0x31, n), BEYOND);
        due("none came", x.count(5), 0);
    }

    private static void feedFull() {
        says("BEYOND. FULL.");
        for (int n = 1; n <= 8; n++) {
            FallingSlates x = new FallingSlates();
            for (int i = 0; i < 50 - n; i++) x.feed('1', 1);
            due("just so many", x.feed(0, n), 50);
            due("no more", x.feed(0, 1), FULL);
            x = new FallingSlates();
            for (int i = 0; i < 51 - n; i++) x.feed('1', 1);
            due("one too many", x.feed(0, n), FULL);
            due("none of them came", x.count(5), 51 - n);
            due("BEYOND ahead of FULL", x.feed(0, 9), BEYOND);
        }
    }

    private static void text() {
        says("THE TAPE, which is empty then, is the TEXT of a USE (0, 1), in place of one ahead: 1.");
        FallingSlates x = new FallingSlates();
        for (int use = 0; use <= 1; use++) {
            due("read", read(x, use, "5" + use), 1);
            due("empty then", x.count(5), 0);
            due("of its USE", x.law(use, 0, 0, 0, 0), 50 + use);
        }
        due("of the other USE still", x.law(0, 0, 0, 0, 0), 50);
        due("empty: a FAULT at 0", x.text(0), -10);
        due("the one ahead stays", x.law(0, 0, 0, 0, 0), 50);
    }

    private static void textInPlace() {
        says("in place of one ahead: 1.");
        FallingSlates x = new FallingSlates();
        for (int i = 1; i <= 100; i++) {
            due("one more", read(x, 0, i + "+p"), 1);
            due("in place", x.law(0, 1000, 0, 0, 0), 1000 + i);
        }
        read(x, 0, "1+2+3+4+5+6+7+8+9+1+2+3+4+5+6+7+8+9");
        due("a long one", x.law(0, 0, 0, 0, 0), 90);
        read(x, 0, "7");
        due("a short one behind it", x.law(0, 0, 0, 0, 0), 7);
    }

    private static void textRefused() {
        says("BEYOND (THE TAPE stays). -10 less the FAULT (no ERROR; the one ahead stays).");
        FallingSlates x = new FallingSlates();
        feedAll(x, "5");
        int[] no = {-1, 2, MIN, MAX};
        for (int use : no) {
            due("use " + use, x.text(use), BEYOND);
            due("THE TAPE stays", x.count(5), 1);
        }
        due("told", x.told(1), 4);
        due("and is read", x.text(0), 1);
        due("5", x.law(0, 0, 0, 0, 0), 5);
        due("FAULT 0", read(x, 0, "x"), -10);
        due("FAULT 1", read(x, 0, "6x"), -11);
        due("FAULT 50", read(x, 0, "6+".repeat(25)), -60);
        due("THE TAPE is empty", x.count(5), 0);
        due("the one ahead stays", x.law(0, 0, 0, 0, 0), 5);
        for (int k = 1; k <= 5; k++) due("no ERROR", x.told(k), k == 1 ? 4 : 0);
        FallingSlates y = new FallingSlates();
        read(y, 0, "p<");
        due("none ahead: as without a TEXT", y.law(0, 1, 0, 0, 1), 1);
        due("none ahead: as without a TEXT", y.law(0, 2, 0, 0, 1), 0);
    }

    private static void law() {
        says("What a USE gives with its NAMES in order as a, b, c, d. BEYOND.");
        FallingSlates x = new FallingSlates();
        int[] no = {-1, 2, MIN, MAX};
        for (int use : no) due("use " + use, x.law(use, 0, 0, 0, 0), BEYOND);
        String[] names = {"patu", "pfst"};
        for (int use = 0; use <= 1; use++) {
            for (int i = 0; i < 4; i++) {
                read(x, use, "" + names[use].charAt(i));
                int[] v = {MIN, MAX, LOW - 1, 7};
                due("name " + i, x.law(use, v[0], v[1], v[2], v[3]), v[i]);
            }
        }
        x.seller(0, 0, 0);
        x.now(4, 9);
        x.days(3);
        read(x, 0, "t+u");
        due("TODAY and UP themselves are nothing to it", x.law(0, 0, 0, 100, 200), 300);
        due("told", x.told(1), 4);
    }

    private static void days() {
        says("n (1 to 60) DAYS go by: TODAY. BEYOND: n. STATE: it would be above 399.");
        FallingSlates x = new FallingSlates();
        int[] no = {0, -1, 61, MIN, MAX};
        for (int n : no) due("n " + n, x.days(n), BEYOND);
        due("1", x.days(1), 1);
        due("60", x.days(60), 61);
        goTo(x, 340);
        due("400", x.days(60), STATE);
        due("TODAY", x.count(0), 340);
        due("399", x.days(59), 399);
        due("400", x.days(1), STATE);
        for (int n : no) due("BEYOND ahead of STATE", x.days(n), BEYOND);
        due("told of STATE", x.told(3), 2);
        FallingSlates one = new FallingSlates();
        FallingSlates many = new FallingSlates();
        FallingSlates[] both = {one, many};
        for (FallingSlates y : both) {
            y.seller(2, 7, 53);
            y.sort(2, 440, 1);
        }
        for (int i = 0; i < 60; i++) one.days(1);
        many.days(60);
        for (int what = 0; what <= 8; what++) due("60 as 60 times 1: " + what, many.ofSeller(0, what), one.ofSeller(0, what));
        due("60 as 60 times 1", many.ofSort(0, 3), one.ofSort(0, 3));
    }

    private static void year() {
        says("A YEAR of n (1 to 60) DAYS: SEASON then. BEYOND, STATE likewise.");
        FallingSlates x = new FallingSlates();
        int[] no = {0, -1, 61, MIN, MAX};
        for (int n : no) due("n " + n, x.year(n), BEYOND);
        due("nothing is drawn", x.count(8), 1);
        due("1", x.year(1), 2);
        due("TODAY", x.count(0), 1);
        int z = x.count(8);
        for (int i = 0; i < 60; i++) z = z * 1103515245 + 12345;
        due("60", x.year(60), (z >>> 8) % 3);
        due("sixty draws", x.count(8), z);
        due("TODAY", x.count(0), 61);
        goTo(x, 340);
        due("400", x.year(60), STATE);
        due("nothing is drawn", x.count(8), z);
        due("SEASON stays", x.count(3), (z >>> 8) % 3);
        x.year(59);
        due("399", x.count(0), 399);
        due("400", x.year(1), STATE);
        for (int n : no) due("BEYOND ahead of STATE", x.year(n), BEYOND);
    }

    private static void then() {
        says("AHEAD by n: what is told of a SELLER as by ofSeller(). BEYOND.");
        FallingSlates x = new FallingSlates();
        due("no SELLER", x.then(0, 0, 0), BEYOND);
        x.seller(5, 60, 4003);
        x.seller(6, 70, 8310);
        x.sort(2, 999, 0);
        int[] no = {-1, 61, MIN, MAX};
        for (int n : no) due("n " + n, x.then(n, 0, 0), BEYOND);
        due("what 9", x.then(1, 0, 9), BEYOND);
        due("what -1", x.then(1, 0, -1), BEYOND);
        due("seller 2", x.then(1, 2, 0), BEYOND);
        due("seller -1", x.then(1, -1, 0), BEYOND);
        int[] days = {0, 1, 5, 60};
        for (int n : days) {
            FallingSlates y = new FallingSlates();
            y.seller(5, 60, 4003);
            y.seller(6, 70, 8310);
            y.sort(2, 999, 0);
            if (n > 0) y.days(n);
            for (int what = 0; what <= 8; what++) {
                due("by " + n + ": " + what, x.then(n, 0, what), y.ofSeller(0, what));
                due("by " + n + ": " + what, x.then(n, 1, what), y.ofSeller(1, what));
            }
        }
        due("PURSE: 3 made, 2 sold", x.then(1, 0, 5), 1000 - 1200);
        due("NEWLY would ASK anew", x.then(1, 1, 8), 900);
        due("what is on its SLATE", x.then(2, 1, 6), 900);
    }

    private static void waits() {
        says("AHEAD by n: WAITING of a SORT. BEYOND.");
        FallingSlates x = new FallingSlates();
        due("no SORT", x.waits(0, 0), BEYOND);
        x.sort(9, 0, 1);
        x.sort(9, 0, 0);
        int[] no = {-1, 61, MIN, MAX};
        for (int n : no) due("n " + n, x.waits(n, 0), BEYOND);
        due("sort 2", x.waits(1, 2), BEYOND);
        due("sort -1", x.waits(1, -1), BEYOND);
        due("by 0", x.waits(0, 0), 0);
        due("by 11", x.waits(11, 0), 99);
        due("by 12", x.waits(12, 0), 99);
        due("by 60", x.waits(60, 0), 99);
        due("none stays", x.waits(60, 1), 0);
        x.days(1);
        due("by 0 as it is", x.waits(0, 0), 9);
    }

    private static void earned() {
        says("EARNED AHEAD by n. BEYOND.");
        FallingSlates x = new FallingSlates();
        int[] no = {-1, 61, MIN, MAX};
        for (int n : no) due("n " + n, x.earned(n), BEYOND);
        due("no SELLERS", x.earned(60), 0);
        x.seller(0, 0, 9999);
        x.seller(0, 0, 1);
        due("by 0", x.earned(0), 0);
        due("by 60, all made and none sold", x.earned(60), -60 * 8991);
        x.sort(1, 500, 0);
        due("by 60, one sold a day", x.earned(60), -60 * 8991 + 60 * 500);
    }

    private static void lost() {
        says("LOST AHEAD by n. BEYOND.");
        FallingSlates x = new FallingSlates();
        int[] no = {-1, 61, MIN, MAX};
        for (int n : no) due("n " + n, x.lost(n), BEYOND);
        due("no SELLERS, no SORTS", x.lost(60), 0);
        x.seller(0, 0, 1001);
        x.sort(2, 400, 1);
        due("by 0", x.lost(0), 0);
        due("by 1: one made, two wait", x.lost(1), 1);
        due("by 30", x.lost(30), 30);
        due("by 60", x.lost(60), 60);
    }

    private static void begin() {
        says("BEGIN of a SELLER by n (1 to 9). BEYOND.");
        FallingSlates x = new FallingSlates();
        due("no SELLER", x.begin(0, 1), BEYOND);
        x.seller(0, 0, 1);
        x.sort(1, 730, 0);
        int[] no = {0, -1, 10, 60, MIN, MAX};
        for (int n : no) due("n " + n, x.begin(0, n), BEYOND);
        for (int n = 1; n <= 9; n++) due("n " + n, x.begin(0, n), 730);
        due("seller 1", x.begin(1, 1), BEYOND);
        due("seller -1", x.begin(-1, 1), BEYOND);
        x.days(1);
        x.seller(0, 0, 0);
        stand(x, 1, 9, 10);
        due("nine days below the other: 10", x.begin(0, 9), 10);
        stand(x, 1, 8, 10);
        due("one day of nine when the other has none", x.begin(0, 9), 730);
    }

    private static void right() {
        says("RIGHT of a SELLER by n. BEYOND.");
        FallingSlates x = new FallingSlates();
        due("no SELLER", x.right(0, 1), BEYOND);
        x.seller(0, 0, 1);
        x.set(0, 2, 100);
        x.sort(1, 999, 0);
        int[] no = {-1, 61, MIN, MAX};
        for (int n : no) due("n " + n, x.right(0, n), BEYOND);
        due("by 0", x.right(0, 0), 0);
        due("by 60", x.right(0, 60), 24000);
        due("seller 1", x.right(1, 1), BEYOND);
        due("seller -1", x.right(-1, 1), BEYOND);
    }

    private static void tenth() {
        says("TENTH by n with u (0 to 999). BEYOND.");
        FallingSlates x = new FallingSlates();
        x.seller(5, 0, 9991);
        x.set(0, 2, 0);
        x.sort(1, 999, 0);
        int[] no = {-1, 61, MIN, MAX};
        for (int n : no) due("n " + n, x.tenth(n, 0), BEYOND);
        int[] notU = {-1, 1000, MIN, MAX};
        for (int u : notU) due("u " + u, x.tenth(0, u), BEYOND);
        due("u 999", x.tenth(60, 999), 60 * 999);
        due("u 998", x.tenth(60, 998), 0);
        due("u 0", x.tenth(60, 0), 0);
        due("by 0", x.tenth(0, 999), 0);
    }

    private static void gains() {
        says("GAINS by n. BEYOND. NONE: there are no SELLERS.");
        FallingSlates x = new FallingSlates();
        int[] no = {-1, 61, MIN, MAX};
        for (int n : no) due("BEYOND ahead of NONE", x.gains(n), BEYOND);
        due("by 0", x.gains(0), NONE);
        due("by 60", x.gains(60), NONE);
        x.sort(1, 999, 0);
        due("SORTS alone", x.gains(1), NONE);
        x.seller(0, 0, 0);
        due("one", x.gains(60), 0);
        for (int n : no) due("n " + n, x.gains(n), BEYOND);
    }

    private static void down() {
        says("DOWN of a SELLER by n (1 to 9), k: i -1 its PURSE then, else the i-th cut.");
        FallingSlates x = new FallingSlates();
        due("no SELLER", x.down(0, 1, 2, 0), BEYOND);
        x.seller(0, 0, 0);
        stand(x, 0, 99, 500);
        x.sort(1, 450, 0);
        for (int n = 1; n <= 9; n++) {
            due("n " + n, x.down(0, n, 2, -1), 2 * n * 450);
            due("n " + n, x.down(0, n, 2, 0), 50);
            due("n " + n, x.down(0, n, 2, 1), 0);
            due("n " + n, x.down(0, n, 3, -1), 3 * n * 450);
            due("n " + n, x.down(0, n, 3, 2), 0);
        }
        x.set(0, 1, -7);
        due("its PURSE then, with what it had", x.down(0, 1, 2, -1), 893);
        says("BEYOND: also i below -1, or k and above.");
        int[][] no = {{1, 1, 2, 0}, {-1, 1, 2, 0}, {0, 0, 2, 0}, {0, 10, 2, 0}, {0, -1, 2, 0}, {0, 1, 1, 0}, {0, 1, 4, 0},
            {0, 1, 2, -2}, {0, 1, 2, 2}, {0, 1, 2, 3}, {0, 1, 3, 3}, {0, 1, 3, -2}, {0, 1, MIN, 0}, {0, 1, MIN, MIN},
            {0, 1, MAX, MAX}, {0, 1, 0, -1}, {0, 1, 3, MAX}, {0, 1, 3, MIN}, {0, MAX, 3, 0}, {MIN, 1, 3, 0}, {0, 1, -1, -1}};
        for (int[] c : no) due("down(" + c[0] + ", " + c[1] + ", " + c[2] + ", " + c[3] + ")", x.down(c[0], c[1], c[2], c[3]), BEYOND);
        due("told", x.told(1), no.length + 1);
    }

    private static void first() {
        says("The SELLER to whom a SORT would go first now (with a STOCK, the cheapest; by SLATES as they are).");
        FallingSlates x = new FallingSlates();
        due("no SORT", x.first(0), BEYOND);
        x.sort(0, 0, 0);
        due("no SELLERS", x.first(0), NONE);
        for (int i = 0; i < 6; i++) x.seller(1, 90, 9);
        says("BEYOND. NONE: there is none with a STOCK and something on the SLATE.");
        due("neither", x.first(0), NONE);
        x.set(3, 2, 100);
        due("a SLATE alone", x.first(0), NONE);
        x.set(4, 0, 9);
        due("a SLATE, and another's STOCK", x.first(0), NONE);
        x.set(3, 0, 1);
        due("both", x.first(0), 3);
        stand(x, 5, 1, 99);
        due("cheaper", x.first(0), 5);
        stand(x, 1, 1, 99);
        due("of like ones the least", x.first(0), 1);
        stand(x, 2, 1, 0);
        due("0", x.first(0), 2);
        stand(x, 0, 0, 0);
        due("no STOCK of its own", x.first(0), 2);
        stand(x, 4, 9, 150);
        due("by SLATES as they are, not as they will be", x.first(0), 2);
        x.set(2, 2, -1);
        due("nothing on it now", x.first(0), 1);
        stand(x, 0, 1, 98);
        due("the first of all, dearer ones behind it", x.first(0), 0);
        due("sort 1", x.first(1), BEYOND);
        due("sort -1", x.first(-1), BEYOND);
    }
}
