/** The sentences of the Terms on voices, the trace and sheets that name an edge, each with a test of its own. */
public final class EdgesOfVoicesTest extends Checks {
    private static final int[] NUMBERS = {0, 5, -5, 1, MAX, MIN, MAX - 3, 1 << 30};

    public static void main(String[] args) {
        asks();
        sells();
        holds();
        tells();
        goRound();
        numberAndM();
        traces();
        latestVoice();
        fourSheets();
        fortyNumbers();
        bits();
        end();
    }

    /** A seller of each number, all of one kind. */
    private static FallingSlates sixOf(int kind, int m) {
        FallingSlates x = new FallingSlates();
        for (int i = 0; i < 6; i++) x.seller(kind, m, 0);
        return x;
    }

    private static int asksOf(int kind, int n, int x) {
        return kind == 2 ? (x + n) * 3 : kind == 3 ? (x + 1 + n) * 3 : x + n;
    }

    private static int holdsOf(int kind, int n, int m, int x) {
        return kind == 3 ? m - x : kind == 5 ? (x - m) ^ n : x - m;
    }

    private static int sellsOf(int kind, int n, int m, int x) {
        int twice = asksOf(kind, n, x) * 2;
        return kind == 1 ? twice - (1 - m) : kind == 6 ? twice - (1 - m) + m : twice;
    }

    private static int tellsOf(int kind, int n, int m, int x) {
        int plain = sellsOf(kind, n, m, x) ^ holdsOf(kind, n, m, x);
        if (kind == 4 || kind == 5) return plain - (2 + n);
        return kind == 6 ? sellsOf(kind, n, m, x) - plain : plain;
    }

    private static void asks() {
        says("BODIES: SELLER: 10 asks: x + n. 11 sells: asks(x) * 2. 12 holds: x - m. 13 tells: sells(x) ^ holds(x).");
        says("STEPPER: 30 asks: super.asks(x) * 3. HURRIED: 40 holds: -super.holds(x). 41 asks: super.asks(x + 1).");
        for (int kind = 0; kind <= 6; kind++) {
            FallingSlates x = sixOf(kind, 9);
            for (int n = 0; n < 6; n++) {
                for (int v : NUMBERS) due(kind + " asks " + v, x.voice(n, 0, v), asksOf(kind, n, v));
            }
        }
    }

    private static void sells() {
        says("HIGH: 20 sells: super.sells(x) - holds(1).");
        says("NEWLY: 70 sells: super.sells(x) + m. 71 tells: sells(x) - super.tells(x).");
        for (int kind = 0; kind <= 6; kind++) {
            FallingSlates x = sixOf(kind, 99);
            for (int n = 0; n < 6; n++) {
                for (int v : NUMBERS) due(kind + " sells " + v, x.voice(n, 1, v), sellsOf(kind, n, 99, v));
            }
        }
    }

    private static void holds() {
        says("STUBBORN: 60 holds: super.holds(x) ^ n.");
        for (int kind = 0; kind <= 6; kind++) {
            FallingSlates x = sixOf(kind, 7);
            for (int n = 0; n < 6; n++) {
                for (int v : NUMBERS) due(kind + " holds " + v, x.voice(n, 2, v), holdsOf(kind, n, 7, v));
            }
        }
    }

    private static void tells() {
        says("HOLDER: 50 tells: super.tells(x) - asks(2).");
        for (int kind = 0; kind <= 6; kind++) {
            FallingSlates x = sixOf(kind, 4);
            for (int n = 0; n < 6; n++) {
                for (int v : NUMBERS) due(kind + " tells " + v, x.voice(n, 3, v), tellsOf(kind, n, 4, v));
            }
        }
    }

    private static void goRound() {
        says("VOICES of a SELLER, with a number x (ints that go round);");
        FallingSlates x = sixOf(0, 1);
        due("asks", x.voice(5, 0, MAX), MIN + 4);
        due("sells", x.voice(0, 1, MAX), -2);
        due("holds", x.voice(0, 2, MIN), MAX);
        x = sixOf(3, 0);
        due("holds of HURRIED", x.voice(0, 2, MIN), MIN);
        due("asks of HURRIED", x.voice(0, 0, MAX), MIN * 3);
        for (int k = 1; k <= 5; k++) due("no ERROR", x.told(k), 0);
    }

    private static void numberAndM() {
        says("n is its number, m as told: 0 asks, 1 sells, 2 holds, 3 tells.");
        FallingSlates x = new FallingSlates();
        int[] ms = {0, 99, 1};
        for (int m : ms) x.seller(0, m, 0);
        for (int n = 0; n < 3; n++) {
            due("asks", x.voice(n, 0, 10), 10 + n);
            due("sells", x.voice(n, 1, 10), 20 + 2 * n);
            due("holds", x.voice(n, 2, 10), 10 - ms[n]);
            due("tells", x.voice(n, 3, 10), (20 + 2 * n) ^ (10 - ms[n]));
        }
        due("act -1", x.voice(0, -1, 0), BEYOND);
        due("act 4", x.voice(0, 4, 0), BEYOND);
    }

    private static void traces() {
        says("asks(..) is the BODY of its KIND, or of the next KIND above that has one; "
            + "super.asks(..) that from the KIND above the BODY's on.");
        says("THE TRACE: the numbers of BODIES of the latest voice(), as they began (what stands left is worked out first), "
            + "the first 40.");
        String[][] bodies = {
            {"10", "11 10", "12", "13 11 10 12"},
            {"10", "20 11 10 12", "12", "13 20 11 10 12 12"},
            {"30 10", "11 30 10", "12", "13 11 30 10 12"},
            {"41 30 10", "11 41 30 10", "40 12", "13 11 41 30 10 40 12"},
            {"10", "11 10", "12", "50 13 11 10 12 10"},
            {"10", "11 10", "60 12", "50 13 11 10 60 12 10"},
            {"10", "70 20 11 10 12", "12", "71 70 20 11 10 12 13 70 20 11 10 12 12"}};
        for (int kind = 0; kind <= 6; kind++) {
            FallingSlates x = sixOf(kind, 3);
            for (int act = 0; act <= 3; act++) {
                x.voice(kind % 6, act, 8);
                String[] want = bodies[kind][act].split(" ");
                due(kind + ", " + act + ": so many", x.count(7), want.length);
                for (int i = 0; i < want.length; i++) {
                    due(kind + ", " + act + ": trace(" + i + ")", x.trace(i), Integer.parseInt(want[i]));
                }
                due(kind + ", " + act + ": no more", x.trace(want.length), NONE);
                due(kind + ", " + act + ": none below", x.trace(-1), NONE);
            }
        }
    }

    private static void latestVoice() {
        says("THE TRACE: the numbers of BODIES of the latest voice(),");
        FallingSlates x = new FallingSlates();
        due("none yet", x.count(7), 0);
        due("none yet", x.trace(0), NONE);
        x.seller(6, 1, 0);
        for (int i = 0; i < 5; i++) x.voice(0, 3, i);
        due("of the latest alone", x.count(7), 13);
        x.voice(0, 0, 1);
        due("a short one", x.count(7), 1);
        due("nothing of the long one", x.trace(1), NONE);
        x.voice(1, 0, 1);
        x.voice(0, 9, 1);
        due("a refused one is none", x.count(7), 1);
        due("a refused one is none", x.trace(0), 10);
    }

    private static void fourSheets() {
        says("4. SHEETS 0 .. 3 are rows of 8, 16, 32 bits, at most 40 numbers, or missing (as at first).");
        FallingSlates x = new FallingSlates();
        for (int s = 0; s <= 3; s++) due("missing at first", x.sorts(s), NONE);
        due("no sheet 4", x.sheet(4, 8, 1), BEYOND);
        due("no sheet -1", x.sheet(-1, 8, 1), BEYOND);
        for (int s = 0; s <= 3; s++) due("there", x.sheet(s, 8 << (s % 3), 2 + s), 1);
        for (int s = 0; s <= 3; s++) {
            due("its last", x.put(s, 1 + s, 7), 1);
            due("none behind it", x.put(s, 2 + s, 7), BEYOND);
        }
        due("missing again", x.sheet(2, 0, 0), 1);
        due("missing", x.put(2, 0, 0), NONE);
        due("the others are there", x.put(3, 0, 0), 1);
        due("the others are there", x.put(1, 0, 0), 1);
    }

    private static void fortyNumbers() {
        says("4. SHEETS 0 .. 3 are rows of 8, 16, 32 bits, at most 40 numbers, or missing (as at first).");
        int[] all = {8, 16, 32};
        for (int bits : all) {
            FallingSlates x = new FallingSlates();
            due("41", x.sheet(0, bits, 41), BEYOND);
            due("still missing", x.put(0, 0, 0), NONE);
            due("40", x.sheet(0, bits, 40), 1);
            due("the last", x.put(0, 39, 1), 1);
            due("none behind it", x.put(0, 40, 1), BEYOND);
            due("41, and 40 stay", x.sheet(0, bits, 41), BEYOND);
            due("the last", x.put(0, 39, 1), 1);
            due("0", x.sheet(0, bits, 0), 1);
            due("none in it", x.put(0, 0, 1), BEYOND);
            due("it isn't missing", x.sorts(0), 0);
        }
    }

    private static void bits() {
        says("4. SHEETS 0 .. 3 are rows of 8, 16, 32 bits, at most 40 numbers, or missing (as at first).");
        int[] refused = {-1, 1, 7, 9, 15, 17, 24, 31, 33, 64, MIN, MAX};
        FallingSlates x = new FallingSlates();
        for (int bits : refused) due("bits " + bits, x.sheet(0, bits, 1), BEYOND);
        due("still missing", x.put(0, 0, 0), NONE);
    }
}
