import java.util.ArrayList;
import java.util.List;
import java.util.Random;

/** Long runs of drawn calls, each answer held against that of PlainSlates. */
public final class RandomRunsTest {
    private static final int RUNS = 250;
    private static final int CALLS = 512;
    private static final String SIGNS = "|&<=>+-*/%";

    private final Random random;
    private final int run;
    private final FallingSlates x = new FallingSlates();
    private final PlainSlates y = new PlainSlates();
    private final List<String> calls = new ArrayList<>();
    private int made;
    private boolean wrong;

    private RandomRunsTest(int run) {
        this.run = run;
        random = new Random(run);
    }

    public static void main(String[] args) {
        int wrongRuns = 0;
        for (int run = 0; run < RUNS; run++) {
            RandomRunsTest one = new RandomRunsTest(run);
            one.go();
            if (one.wrong) wrongRuns++;
        }
        System.out.println(wrongRuns == 0 ? "all drawn runs are alike" : wrongRuns + " drawn runs are not alike");
        if (wrongRuns != 0) System.exit(1);
    }

    private void go() {
        int sellers = random.nextInt(7);
        for (int i = 0; i < sellers; i++) seller();
        int sorts = random.nextInt(6);
        for (int i = 0; i < sorts; i++) sort();
        boolean wild = run % 4 == 0;
        while (made < CALLS - 10 && !wrong) {
            int act = random.nextInt(43);
            one(act, wild);
        }
        for (int k = 0; k <= 6 && !wrong; k++) same("told(" + k + ")", x.told(k), y.told(k));
    }

    private void same(String call, int got, int want) {
        made++;
        calls.add(call + " = " + got);
        if (got != want && !wrong) {
            wrong = true;
            System.out.println("run " + run + ": " + call + " answered " + got + ", due is " + want + "; ahead of it:");
            for (int i = Math.max(0, calls.size() - 40); i < calls.size(); i++) System.out.println("    " + calls.get(i));
        }
    }

    /** Mostly within the bounds, at times at or past an edge, at times anything. */
    private int near(int least, int most) {
        int r = random.nextInt(40);
        if (r == 0) return least - 1;
        if (r == 1) return most + 1;
        if (r == 2) return random.nextInt();
        if (r == 3) return random.nextBoolean() ? Integer.MIN_VALUE : Integer.MAX_VALUE;
        if (r < 7) return least;
        if (r < 10) return most;
        return most < least ? least : least + random.nextInt(most - least + 1);
    }

    private int anySeller() {
        return near(0, y.w.sellers.size() - 1);
    }

    private int anySort() {
        return near(0, y.w.sorts.size() - 1);
    }

    private void seller() {
        int kind = near(0, 6);
        int m = near(0, 99);
        int cm = random.nextInt(3) == 0 ? near(0, 9999) : 10 * random.nextInt(400) + random.nextInt(6);
        same("seller(" + kind + ", " + m + ", " + cm + ")", x.seller(kind, m, cm), y.seller(kind, m, cm));
    }

    private void sort() {
        int come = near(0, 9);
        int worth = near(0, 999);
        int stays = near(0, 9);
        same("sort(" + come + ", " + worth + ", " + stays + ")", x.sort(come, worth, stays), y.sort(come, worth, stays));
    }

    private String names(int use) {
        return random.nextInt(60) == 0 ? "patufs" : use == 0 ? "patu" : "pfst";
    }

    private String operand(int use, int depth) {
        int r = random.nextInt(12);
        if (r < 5) return "" + names(use).charAt(random.nextInt(4));
        if (r < 8 || depth > 5) return "" + random.nextInt(random.nextInt(50) == 0 ? 100000 : 1000);
        if (r < 10) return "!" + operand(use, depth + 1);
        return "(" + phrase(use, depth + 1) + ")";
    }

    private String phrase(int use, int depth) {
        StringBuilder b = new StringBuilder(operand(use, depth));
        int joins = random.nextInt(4);
        for (int i = 0; i < joins; i++) b.append(SIGNS.charAt(random.nextInt(SIGNS.length()))).append(operand(use, depth));
        return b.toString();
    }

    private String drawnText(int use) {
        String t = "";
        for (int tries = 0; tries < 20; tries++) {
            t = phrase(use, 0);
            if (t.length() <= 50 && PlainSlates.fault(t, use == 0 ? "patu" : "pfst") < 0) break;
            if (t.length() <= 50 && random.nextInt(3) == 0) break;
        }
        if (random.nextInt(6) == 0 && !t.isEmpty()) {
            int at = random.nextInt(t.length());
            String sign = "" + (random.nextBoolean() ? "patufs0123456789|&<=>+-*/%!() ".charAt(random.nextInt(30))
                : (char) random.nextInt(256));
            t = t.substring(0, at) + sign + t.substring(at + random.nextInt(2));
        }
        return t;
    }

    private void text() {
        int use = near(0, 1);
        String t = drawnText(use);
        for (int i = 0; i < t.length(); i += 8) {
            int n = Math.min(8, t.length() - i);
            long word = n == 8 ? 0 : random.nextLong() << (8 * n);
            for (int k = 0; k < n; k++) word |= (long) t.charAt(i + k) << (8 * k);
            feed(word, n);
        }
        same("text(" + use + ") of " + t, x.text(use), y.text(use));
    }

    private void feed(long word, int n) {
        same("feed(" + word + ", " + n + ")", x.feed(word, n), y.feed(word, n));
    }

    private void sheet(int s) {
        int bits = new int[] {8, 16, 32, 0, 16, 32, 24}[random.nextInt(7)];
        int n = near(0, 40);
        same("sheet(" + s + ", " + bits + ", " + n + ")", x.sheet(s, bits, n), y.sheet(s, bits, n));
    }

    private void put(int s, int i, int v) {
        same("put(" + s + ", " + i + ", " + v + ")", x.put(s, i, v), y.put(s, i, v));
    }

    private void sortsBySheet() {
        int s = near(0, 3);
        if (random.nextInt(3) > 0) sheet(s);
        int filled = random.nextInt(16);
        for (int i = 0; i < filled; i++) put(s, i, i % 3 == 1 ? near(0, 999) : near(0, 9));
        same("sorts(" + s + ")", x.sorts(s), y.sorts(s));
    }

    private void rows() {
        int a = near(0, 3);
        int b = near(0, 3);
        int i = near(0, 12);
        int j = near(0, 12);
        int n = near(0, 12);
        same("move(" + a + ", " + i + ", " + b + ", " + j + ", " + n + ")", x.move(a, i, b, j, n), y.move(a, i, b, j, n));
    }

    private void checkSlates() {
        int n = near(0, 20);
        int sellers = y.w.sellers.size();
        for (int i = 0; i < sellers; i++) {
            int v = random.nextInt(9) == 0 ? 7 : PlainSlates.in(n, 0, 60) ? PlainSlates.of(y.w.ahead(n), i, 6) : 0;
            same("tell(" + v + ")", x.tell(v), y.tell(v));
        }
        if (random.nextInt(4) == 0) same("tell(1)", x.tell(1), y.tell(1));
        same("check(" + n + ")", x.check(n), y.check(n));
    }

    private void one(int act, boolean wild) {
        int i = anySeller();
        int s = anySort();
        int n = near(0, 60);
        int few = near(1, 9);
        int any = random.nextInt();
        int what = near(0, 8);
        switch (act) {
            case 0: if (random.nextInt(4) == 0) seller(); break;
            case 1: if (random.nextInt(4) == 0) sort(); break;
            case 2: case 3: same("ofSeller(" + i + ", " + what + ")", x.ofSeller(i, what), y.ofSeller(i, what)); break;
            case 4: {
                int v = near(0, 99);
                same("set(" + i + ", 0, " + v + ")", x.set(i, 0, v), y.set(i, 0, v));
                break;
            }
            case 5: {
                int v = random.nextInt(6) == 0 ? near(-99999999, 99999999) : near(-5000, 5000);
                same("set(" + i + ", 1, " + v + ")", x.set(i, 1, v), y.set(i, 1, v));
                break;
            }
            case 6: case 7: {
                int v = near(-1, 999);
                int w = random.nextInt(20) == 0 ? near(0, 3) : 2;
                same("set(" + i + ", " + w + ", " + v + ")", x.set(i, w, v), y.set(i, w, v));
                break;
            }
            case 8: {
                int k = near(0, 6);
                same("as(" + i + ", " + k + ")", x.as(i, k), y.as(i, k));
                break;
            }
            case 9: {
                int p = near(0, 999);
                same("may(" + i + ", " + p + ")", x.may(i, p), y.may(i, p));
                break;
            }
            case 10: {
                int w = near(0, 4);
                same("ofSort(" + s + ", " + w + ")", x.ofSort(s, w), y.ofSort(s, w));
                break;
            }
            case 11: if (random.nextInt(3) == 0) sortsBySheet(); break;
            case 12: case 13: {
                int w = near(0, 4);
                int v = w == 0 ? near(0, 2) : w == 4 ? near(0, 999) : near(0, 40);
                same("now(" + w + ", " + v + ")", x.now(w, v), y.now(w, v));
                break;
            }
            case 14: if (random.nextInt(4) == 0) feed(random.nextLong(), near(1, 8)); break;
            case 15: if (wild || random.nextInt(3) == 0) text(); break;
            case 16: case 17: {
                int u = near(0, 1);
                int b = random.nextInt(1000);
                int c = random.nextInt(9) == 0 ? any : random.nextInt(400);
                int a = random.nextBoolean() ? any : random.nextInt(1000);
                int d = random.nextInt(4) == 0 ? Integer.MAX_VALUE : random.nextInt(10);
                String call = "law(" + u + ", " + a + ", " + b + ", " + c + ", " + d + ")";
                same(call, x.law(u, a, b, c, d), y.law(u, a, b, c, d));
                break;
            }
            case 18: case 19: {
                int d = random.nextInt(9) == 0 ? near(1, 60) : near(1, 4);
                same("days(" + d + ")", x.days(d), y.days(d));
                break;
            }
            case 20: {
                int d = random.nextInt(9) == 0 ? near(1, 60) : near(1, 4);
                same("year(" + d + ")", x.year(d), y.year(d));
                break;
            }
            case 21: case 22: {
                String call = "then(" + n + ", " + i + ", " + what + ")";
                same(call, x.then(n, i, what), y.then(n, i, what));
                break;
            }
            case 23: same("waits(" + n + ", " + s + ")", x.waits(n, s), y.waits(n, s)); break;
            case 24: same("earned(" + n + ")", x.earned(n), y.earned(n)); break;
            case 25: same("lost(" + n + ")", x.lost(n), y.lost(n)); break;
            case 26: same("begin(" + i + ", " + few + ")", x.begin(i, few), y.begin(i, few)); break;
            case 27: same("right(" + i + ", " + n + ")", x.right(i, n), y.right(i, n)); break;
            case 28: {
                int u = near(0, 999);
                same("tenth(" + n + ", " + u + ")", x.tenth(n, u), y.tenth(n, u));
                break;
            }
            case 29: same("gains(" + n + ")", x.gains(n), y.gains(n)); break;
            case 30: {
                if (random.nextInt(4) > 0) break;
                int k = near(2, 3);
                int c = near(-1, 2);
                String call = "down(" + i + ", " + few + ", " + k + ", " + c + ")";
                same(call, x.down(i, few, k, c), y.down(i, few, k, c));
                break;
            }
            case 31: same("first(" + s + ")", x.first(s), y.first(s)); break;
            case 32: same("seed(" + any + ")", x.seed(any), y.seed(any)); break;
            case 33: {
                int v = near(0, 3);
                same("voice(" + i + ", " + v + ", " + any + ")", x.voice(i, v, any), y.voice(i, v, any));
                for (int t = -1; t < 15; t += 3) same("trace(" + t + ")", x.trace(t), y.trace(t));
                break;
            }
            case 34: {
                int t = near(0, 13);
                same("trace(" + t + ")", x.trace(t), y.trace(t));
                break;
            }
            case 35: sheet(near(0, 3)); break;
            case 36: put(near(0, 3), near(0, 12), random.nextInt(3) == 0 ? any : near(0, 300)); break;
            case 37: rows(); break;
            case 38: if (random.nextInt(3) == 0) same("image()", x.image(), y.image()); break;
            case 39: if (random.nextInt(3) == 0) same("restore()", x.restore(), y.restore()); break;
            case 40: {
                int v = near(-1, 999);
                same("tell(" + v + ")", x.tell(v), y.tell(v));
                break;
            }
            case 41: if (random.nextInt(2) == 0) checkSlates(); break;
            default: {
                int c = near(0, 8);
                same("count(" + c + ")", x.count(c), y.count(c));
            }
        }
    }
}
