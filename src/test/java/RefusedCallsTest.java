import java.util.ArrayList;
import java.util.List;

/** Every call that is refused, by the order of its errors, and held against a twin that was never asked. */
public final class RefusedCallsTest extends Checks {
    private interface Act {
        int on(FallingSlates x);
    }

    private static final int NEW = 0;
    private static final int BUSY = 1;
    private static final int AT_ITS_EDGE = 2;
    private static final int[] FAR = {MIN, MAX};

    public static void main(String[] args) {
        says("Each act tells its ERRORS in the order in which they are asked; "
            + "one that answers an ERROR changes nothing but what told() tells.");
        ofNewOnes();
        ofSellers();
        ofSorts();
        ofTextsAndDays();
        ofLooksAhead();
        ofSheets();
        ofTheRest();
        whereAllIsFull();
        orders();
        looks();
        end();
    }

    private static FallingSlates made(int how) {
        return how == NEW ? new FallingSlates() : how == BUSY ? busy() : atItsEdge();
    }

    /** Three sellers, two sorts, an image without sorts, and something everywhere. */
    private static FallingSlates busy() {
        FallingSlates x = new FallingSlates();
        x.seller(1, 10, 1002);
        x.seller(5, 20, 5005);
        x.seller(6, 30, 8001);
        x.image();
        x.sort(3, 870, 2);
        x.sort(2, 480, 1);
        x.days(3);
        x.now(0, 1);
        for (int what = 1; what <= 4; what++) x.now(what, 10 + what);
        x.seed(77);
        read(x, 0, "!(p>a+u)|t=9");
        read(x, 1, "!(p>f+s)");
        feedAll(x, "p+42");
        for (int i = 0; i < 3; i++) x.tell(x.ofSeller(i, 6));
        putAll(x, 0, 16, 1, 2, 3, 4, 5, 6, 7);
        putAll(x, 1, 8, 7, 8, 9);
        x.voice(2, 3, 5);
        x.as(0, 5);
        return x;
    }

    /** No room anywhere, and the last day. */
    private static FallingSlates atItsEdge() {
        FallingSlates x = new FallingSlates();
        for (int i = 0; i < 6; i++) x.seller(i, 10, 1002);
        x.image();
        for (int i = 0; i < 8; i++) x.sort(1, 100 * i, i);
        goTo(x, 399);
        for (int i = 0; i < 6; i++) stand(x, i, 99, 999);
        feedAll(x, "1+".repeat(24) + "42");
        for (int i = 0; i < 20; i++) x.tell(999);
        for (int s = 0; s <= 3; s++) putAll(x, s, 16, 9, 8, 7);
        x.voice(0, 3, 5);
        return x;
    }

    private static void see(FallingSlates x, List<Integer> seen) {
        for (int what = 0; what <= 8; what++) seen.add(x.count(what));
        int sellers = seen.get(seen.size() - 8);
        int sorts = seen.get(seen.size() - 7);
        int bodies = seen.get(seen.size() - 2);
        for (int i = 0; i < sellers; i++) for (int what = 4; what <= 8; what++) seen.add(x.ofSeller(i, what));
        seeSorts(x, sorts, seen);
        for (int use = 0; use <= 1; use++) for (int p = 0; p < 4; p++) seen.add(x.law(use, 500 + p, 500, 9 * (p % 2), 1));
        for (int i = 0; i < bodies; i++) seen.add(x.trace(i));
        seen.add(x.earned(5));
    }

    private static void seeSorts(FallingSlates x, int sorts, List<Integer> seen) {
        for (int i = 0; i < sorts; i++) for (int what = 0; what <= 4; what++) seen.add(x.ofSort(i, what));
    }

    /** All that can be found out of an object, which isn't as it was behind it; with the calls that make it, below 512. */
    private static List<Integer> allOf(FallingSlates x) {
        List<Integer> seen = new ArrayList<>();
        for (int k = 1; k <= 5; k++) seen.add(x.told(k));
        see(x, seen);
        seen.add(x.check(0));
        seen.add(x.text(0));
        seen.add(x.law(0, 5, 6, 7, 8));
        for (int what = 0; what <= 4; what++) seen.add(x.now(what, 0));
        for (int sheet = 0; sheet <= 3; sheet++) {
            seen.add(x.restore());
            if (sheet == 0) see(x, seen);
            int came = x.sorts(sheet);
            seen.add(came);
            seeSorts(x, came, seen);
            for (int i = 0; i <= 8; i += 4) seen.add(x.put(sheet, i, 0));
        }
        for (int other = 1; other <= 3; other++) seen.add(x.move(0, 0, other, 0, 1));
        seen.add(x.image());
        return seen;
    }

    private static void refused(int how, String call, int error, Act act) {
        FallingSlates x = made(how);
        FallingSlates twin = made(how);
        due(call, act.on(x), error);
        List<Integer> got = allOf(x);
        List<Integer> want = allOf(twin);
        int k = LOW - error;
        if (k >= 1 && k <= 5) want.set(k - 1, want.get(k - 1) + 1);
        due(call + ": so much is seen", got.size(), want.size());
        for (int i = 0; i < Math.min(got.size(), want.size()); i++) {
            if (!got.get(i).equals(want.get(i))) due(call + ": seen at " + i, got.get(i), want.get(i));
        }
    }

    private static void ofNewOnes() {
        refused(NEW, "ofSeller of none", BEYOND, x -> x.ofSeller(0, 0));
        refused(NEW, "set of none", BEYOND, x -> x.set(0, 0, 0));
        refused(NEW, "as of none", BEYOND, x -> x.as(0, 0));
        refused(NEW, "may of none", BEYOND, x -> x.may(0, 0));
        refused(NEW, "ofSort of none", BEYOND, x -> x.ofSort(0, 0));
        refused(NEW, "then of none", BEYOND, x -> x.then(0, 0, 0));
        refused(NEW, "waits of none", BEYOND, x -> x.waits(0, 0));
        refused(NEW, "begin of none", BEYOND, x -> x.begin(0, 1));
        refused(NEW, "right of none", BEYOND, x -> x.right(0, 0));
        refused(NEW, "down of none", BEYOND, x -> x.down(0, 1, 2, 0));
        refused(NEW, "first of none", BEYOND, x -> x.first(0));
        refused(NEW, "voice of none", BEYOND, x -> x.voice(0, 0, 0));
        refused(NEW, "gains of none", NONE, x -> x.gains(0));
        refused(NEW, "trace of none", NONE, x -> x.trace(0));
        refused(NEW, "restore of none", NONE, x -> x.restore());
        for (int s = 0; s <= 3; s++) {
            int sheet = s;
            refused(NEW, "sorts of a missing one", NONE, x -> x.sorts(sheet));
            refused(NEW, "put to a missing one", NONE, x -> x.put(sheet, 0, 0));
            refused(NEW, "move of a missing one", NONE, x -> x.move(sheet, 0, sheet, 0, 0));
        }
    }

    private static void ofSellers() {
        int[][] sellers = {{-1, 0, 0}, {7, 0, 0}, {0, -1, 0}, {0, 100, 0}, {0, 0, -1}, {0, 0, 10000}};
        for (int[] s : sellers) refused(BUSY, "seller", BEYOND, x -> x.seller(s[0], s[1], s[2]));
        for (int far : FAR) {
            refused(BUSY, "seller of kind " + far, BEYOND, x -> x.seller(far, 0, 0));
            refused(BUSY, "seller with m " + far, BEYOND, x -> x.seller(0, far, 0));
            refused(BUSY, "seller with cm " + far, BEYOND, x -> x.seller(0, 0, far));
        }
        int[] no = {-1, 3, MIN, MAX};
        for (int i : no) {
            refused(BUSY, "ofSeller " + i, BEYOND, x -> x.ofSeller(i, 0));
            refused(BUSY, "set " + i, BEYOND, x -> x.set(i, 0, 0));
            refused(BUSY, "as " + i, BEYOND, x -> x.as(i, 0));
            refused(BUSY, "may " + i, BEYOND, x -> x.may(i, 0));
        }
        int[] noWhat = {-1, 9, MIN, MAX};
        for (int what : noWhat) refused(BUSY, "ofSeller what " + what, BEYOND, x -> x.ofSeller(0, what));
        int[][] sets = {{-1, 0}, {3, 0}, {MIN, 0}, {MAX, 0}, {0, -1}, {0, 100}, {1, 100000000}, {1, -100000000}, {2, -2},
            {2, 1000}, {0, MIN}, {0, MAX}, {1, MIN}, {1, MAX}, {2, MIN}, {2, MAX}};
        for (int[] s : sets) refused(BUSY, "set what " + s[0] + " to " + s[1], BEYOND, x -> x.set(1, s[0], s[1]));
        int[] noKind = {-1, 7, MIN, MAX};
        for (int kind : noKind) refused(BUSY, "as kind " + kind, BEYOND, x -> x.as(0, kind));
        refused(BUSY, "as another kind", KIND, x -> x.as(0, 2));
        refused(BUSY, "as a kind below", KIND, x -> x.as(0, 6));
        int[] noPrice = {-1, 1000, MIN, MAX};
        for (int price : noPrice) refused(BUSY, "may at " + price, BEYOND, x -> x.may(0, price));
    }

    private static void ofSorts() {
        int[][] sorts = {{-1, 0, 0}, {10, 0, 0}, {0, -1, 0}, {0, 1000, 0}, {0, 0, -1}, {0, 0, 10}, {MIN, 0, 0}, {0, MAX, 0},
            {0, 0, MIN}};
        for (int[] s : sorts) refused(BUSY, "sort", BEYOND, x -> x.sort(s[0], s[1], s[2]));
        int[] no = {-1, 2, MIN, MAX};
        for (int i : no) refused(BUSY, "ofSort " + i, BEYOND, x -> x.ofSort(i, 0));
        for (int i : no) refused(BUSY, "first " + i, BEYOND, x -> x.first(i));
        int[] noWhat = {-1, 5, MIN, MAX};
        for (int what : noWhat) refused(BUSY, "ofSort what " + what, BEYOND, x -> x.ofSort(0, what));
        int[] noSheet = {-1, 4, MIN, MAX};
        for (int sheet : noSheet) refused(BUSY, "sorts " + sheet, BEYOND, x -> x.sorts(sheet));
        refused(BUSY, "sorts of a missing one", NONE, x -> x.sorts(2));
        int[][] nows = {{-1, 0}, {5, 0}, {MIN, 0}, {MAX, 0}, {0, -1}, {0, 3}, {1, -1}, {1, 41}, {2, -1}, {2, 41}, {3, -1},
            {3, 41}, {4, -1}, {4, 1000}, {0, MIN}, {1, MAX}, {4, MIN}};
        for (int[] n : nows) refused(BUSY, "now what " + n[0] + " to " + n[1], BEYOND, x -> x.now(n[0], n[1]));
    }

    private static void ofTextsAndDays() {
        int[] noBytes = {0, -1, 9, MIN, MAX};
        for (int n : noBytes) refused(BUSY, "feed " + n, BEYOND, x -> x.feed(0x31, n));
        int[] noUse = {-1, 2, MIN, MAX};
        for (int use : noUse) refused(BUSY, "text " + use, BEYOND, x -> x.text(use));
        for (int use : noUse) refused(BUSY, "law " + use, BEYOND, x -> x.law(use, 0, 0, 0, 0));
        int[] noDays = {0, -1, 61, MIN, MAX};
        for (int n : noDays) refused(BUSY, "days " + n, BEYOND, x -> x.days(n));
        for (int n : noDays) refused(BUSY, "year " + n, BEYOND, x -> x.year(n));
    }

    private static void ofLooksAhead() {
        int[] noDays = {-1, 61, MIN, MAX};
        for (int n : noDays) {
            refused(BUSY, "then by " + n, BEYOND, x -> x.then(n, 0, 0));
            refused(BUSY, "waits by " + n, BEYOND, x -> x.waits(n, 0));
            refused(BUSY, "earned by " + n, BEYOND, x -> x.earned(n));
            refused(BUSY, "lost by " + n, BEYOND, x -> x.lost(n));
            refused(BUSY, "right by " + n, BEYOND, x -> x.right(0, n));
            refused(BUSY, "tenth by " + n, BEYOND, x -> x.tenth(n, 0));
            refused(BUSY, "gains by " + n, BEYOND, x -> x.gains(n));
        }
        int[] noSeller = {-1, 3, MIN, MAX};
        for (int i : noSeller) {
            refused(BUSY, "then of " + i, BEYOND, x -> x.then(1, i, 0));
            refused(BUSY, "begin of " + i, BEYOND, x -> x.begin(i, 1));
            refused(BUSY, "right of " + i, BEYOND, x -> x.right(i, 1));
            refused(BUSY, "down of " + i, BEYOND, x -> x.down(i, 1, 2, 0));
        }
        int[] noWhat = {-1, 9, MIN, MAX};
        for (int what : noWhat) refused(BUSY, "then what " + what, BEYOND, x -> x.then(1, 0, what));
        int[] noSort = {-1, 2, MIN, MAX};
        for (int i : noSort) refused(BUSY, "waits of " + i, BEYOND, x -> x.waits(1, i));
        int[] noFew = {0, -1, 10, MIN, MAX};
        for (int n : noFew) refused(BUSY, "begin by " + n, BEYOND, x -> x.begin(0, n));
        for (int n : noFew) refused(BUSY, "down by " + n, BEYOND, x -> x.down(0, n, 2, 0));
        int[] noUp = {-1, 1000, MIN, MAX};
        for (int u : noUp) refused(BUSY, "tenth with " + u, BEYOND, x -> x.tenth(1, u));
        int[][] downs = {{1, 0}, {4, 0}, {0, -1}, {-1, -1}, {MIN, 0}, {MAX, 0}, {2, -2}, {2, 2}, {3, 3}, {3, -2}, {2, MIN},
            {3, MAX}};
        for (int[] d : downs) refused(BUSY, "down with k " + d[0] + ", i " + d[1], BEYOND, x -> x.down(0, 1, d[0], d[1]));
    }

    private static void ofSheets() {
        int[] noSheet = {-1, 4, MIN, MAX};
        for (int s : noSheet) {
            refused(BUSY, "sheet " + s, BEYOND, x -> x.sheet(s, 8, 1));
            refused(BUSY, "sheet " + s + " missing", BEYOND, x -> x.sheet(s, 0, 1));
            refused(BUSY, "put " + s, BEYOND, x -> x.put(s, 0, 0));
            refused(BUSY, "move from " + s, BEYOND, x -> x.move(s, 0, 0, 0, 1));
            refused(BUSY, "move to " + s, BEYOND, x -> x.move(0, 0, s, 0, 1));
        }
        int[] noBits = {-8, 1, 7, 9, 24, 64, MIN, MAX};
        for (int bits : noBits) refused(BUSY, "sheet of bits " + bits, BEYOND, x -> x.sheet(0, bits, 1));
        int[] bits = {8, 16, 32};
        for (int b : bits) {
            refused(BUSY, "sheet of -1", STATE, x -> x.sheet(0, b, -1));
            refused(BUSY, "sheet of the least", STATE, x -> x.sheet(0, b, MIN));
            refused(BUSY, "sheet of 41", BEYOND, x -> x.sheet(0, b, 41));
            refused(BUSY, "sheet of the most", BEYOND, x -> x.sheet(0, b, MAX));
            refused(BUSY, "a missing sheet of -1", STATE, x -> x.sheet(3, b, -1));
        }
        refused(BUSY, "put to a missing one", NONE, x -> x.put(2, 0, 0));
        int[] noNumber = {-1, 7, MIN, MAX};
        for (int i : noNumber) refused(BUSY, "put number " + i, BEYOND, x -> x.put(0, i, 9));
        refused(BUSY, "move from a missing one", NONE, x -> x.move(2, 0, 0, 0, 1));
        refused(BUSY, "move to a missing one", NONE, x -> x.move(0, 0, 2, 0, 1));
        refused(BUSY, "move to unlike bits", KIND, x -> x.move(0, 0, 1, 0, 1));
        refused(BUSY, "move of unlike bits", KIND, x -> x.move(1, 0, 0, 0, 1));
        int[][] moves = {{-1, 0, 1}, {0, -1, 1}, {0, 0, -1}, {0, 0, 8}, {1, 0, 7}, {0, 1, 7}, {7, 0, 1}, {0, 7, 1}, {8, 0, 0},
            {0, 8, 0}, {MAX, 0, 1}, {0, MAX, 1}, {1, 1, MAX}, {MAX, MAX, MAX}, {MIN, 0, 1}, {0, MIN, 1}, {0, 0, MIN}};
        for (int[] m : moves) refused(BUSY, "move within one", BEYOND, x -> x.move(0, m[0], 0, m[1], m[2]));
    }

    private static void ofTheRest() {
        int[] noAct = {-1, 4, MIN, MAX};
        for (int act : noAct) refused(BUSY, "voice " + act, BEYOND, x -> x.voice(0, act, 0));
        int[] noSeller = {-1, 3, MIN, MAX};
        for (int i : noSeller) refused(BUSY, "voice of " + i, BEYOND, x -> x.voice(i, 0, 0));
        int[] noTrace = {-1, 13, MIN, MAX};
        for (int i : noTrace) refused(BUSY, "trace " + i, NONE, x -> x.trace(i));
        int[] noWhat = {-1, 9, MIN, MAX};
        for (int what : noWhat) refused(BUSY, "count " + what, BEYOND, x -> x.count(what));
        int[] noK = {-1, 0, 6, MIN, MAX};
        for (int k : noK) refused(BUSY, "told " + k, BEYOND, x -> x.told(k));
    }

    private static void whereAllIsFull() {
        refused(AT_ITS_EDGE, "a seventh seller", FULL, x -> x.seller(0, 0, 0));
        refused(AT_ITS_EDGE, "a ninth sort", FULL, x -> x.sort(0, 0, 0));
        refused(AT_ITS_EDGE, "a byte more", FULL, x -> x.feed(0x31, 1));
        refused(AT_ITS_EDGE, "eight bytes more", FULL, x -> x.feed(0x31, 8));
        refused(AT_ITS_EDGE, "a number more", FULL, x -> x.tell(0));
        refused(AT_ITS_EDGE, "a day more", STATE, x -> x.days(1));
        refused(AT_ITS_EDGE, "sixty days more", STATE, x -> x.days(60));
        refused(AT_ITS_EDGE, "a year of a day", STATE, x -> x.year(1));
        refused(AT_ITS_EDGE, "a year of sixty days", STATE, x -> x.year(60));
        refused(AT_ITS_EDGE, "sorts with no room are no error", 0, x -> x.sorts(0));
    }

    private static void orders() {
        refused(AT_ITS_EDGE, "seller: BEYOND, FULL", BEYOND, x -> x.seller(7, 0, 0));
        refused(AT_ITS_EDGE, "seller: BEYOND, FULL", BEYOND, x -> x.seller(0, 0, 10000));
        refused(BUSY, "as: BEYOND, KIND", BEYOND, x -> x.as(3, 6));
        refused(AT_ITS_EDGE, "sort: BEYOND, FULL", BEYOND, x -> x.sort(0, 0, 10));
        refused(AT_ITS_EDGE, "feed: BEYOND, FULL", BEYOND, x -> x.feed(0, 9));
        refused(AT_ITS_EDGE, "days: BEYOND, STATE", BEYOND, x -> x.days(61));
        refused(AT_ITS_EDGE, "year: BEYOND, STATE", BEYOND, x -> x.year(61));
        refused(NEW, "gains: BEYOND, NONE", BEYOND, x -> x.gains(61));
        refused(NEW, "first: BEYOND, NONE", BEYOND, x -> x.first(0));
        refused(BUSY, "sheet: BEYOND of the sheet, STATE", BEYOND, x -> x.sheet(4, 8, -1));
        refused(BUSY, "sheet: BEYOND of the bits, STATE", BEYOND, x -> x.sheet(0, 24, -1));
        refused(BUSY, "put: BEYOND, NONE", BEYOND, x -> x.put(4, -1, 0));
        refused(BUSY, "put: NONE, BEYOND", NONE, x -> x.put(2, -1, 0));
        refused(BUSY, "move: BEYOND, NONE", BEYOND, x -> x.move(2, 0, 4, 0, 0));
        refused(BUSY, "move: BEYOND, NONE", BEYOND, x -> x.move(-1, 0, 2, 0, 0));
        refused(BUSY, "move: NONE, KIND", NONE, x -> x.move(1, 0, 2, 0, 0));
        refused(BUSY, "move: NONE, BEYOND", NONE, x -> x.move(2, -1, 0, 0, 0));
        refused(BUSY, "move: KIND, BEYOND", KIND, x -> x.move(0, -1, 1, 0, 0));
        refused(BUSY, "move: KIND, BEYOND", KIND, x -> x.move(0, 0, 1, 0, -1));
    }

    /** Calls that only look change nothing either: they stand here as calls with an answer that is no error. */
    private static void looks() {
        refused(BUSY, "ofSeller", 810, x -> x.ofSeller(2, 8));
        refused(BUSY, "as", 30, x -> x.as(2, 1));
        refused(BUSY, "may", 1, x -> x.may(0, 0));
        refused(BUSY, "ofSort", 870, x -> x.ofSort(0, 1));
        refused(BUSY, "law", 1, x -> x.law(0, 0, 0, 0, 0));
        refused(BUSY, "then", 6, x -> x.then(60, 2, 0));
        refused(BUSY, "waits", 0, x -> x.waits(0, 0));
        refused(BUSY, "trace", 71, x -> x.trace(0));
        refused(BUSY, "count", 3, x -> x.count(0));
        refused(BUSY, "told", 1, x -> x.told(5));
        Act[] all = {x -> x.earned(60), x -> x.lost(60), x -> x.begin(1, 9), x -> x.right(1, 60), x -> x.tenth(60, 999),
            x -> x.gains(60), x -> x.down(1, 9, 3, -1), x -> x.first(0), x -> x.waits(60, 1), x -> x.then(60, 1, 8)};
        for (Act act : all) refused(BUSY, "a look", act.on(busy()), act);
    }
}
