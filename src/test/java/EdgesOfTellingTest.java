/** Promises 26 to 37, sentence by sentence: each that names an edge has a test of its own. */
public final class EdgesOfTellingTest extends Checks {
    public static void main(String[] args) {
        seed();
        voice();
        trace();
        sheet();
        sheetAllZero();
        sheetBelowZero();
        putLowestBits();
        putRefused();
        moveAsTheyAllWere();
        moveWithinOneSheet();
        moveRefused();
        imageKeepsAll();
        imageKeepsNot();
        imageInPlace();
        restore();
        imageStays();
        tell();
        checkAlike();
        checkUnlike();
        checkMissing();
        checkRefused();
        count();
        told();
        manyCalls();
        end();
    }

    private static void seed() {
        says("z becomes v: what it was (any number).");
        FallingSlates x = new FallingSlates();
        int[] all = {1, 0, -1, MIN, MAX, LOW, LOW - 1, LOW - 5, 7};
        for (int i = 1; i < all.length; i++) due("seed(" + all[i] + ")", x.seed(all[i]), all[i - 1]);
        due("z", x.count(8), 7);
        for (int k = 1; k <= 5; k++) due("no ERROR", x.told(k), 0);
    }

    private static void voice() {
        says("A VOICE of a SELLER: any number. BEYOND.");
        FallingSlates x = new FallingSlates();
        due("no SELLER", x.voice(0, 0, 0), BEYOND);
        x.seller(0, 0, 0);
        int[] all = {0, -1, MIN, MAX, LOW, LOW - 1, LOW - 5};
        for (int v : all) due("voice of " + v, x.voice(0, 0, v), v);
        int[] no = {-1, 4, MIN, MAX};
        for (int act : no) due("act " + act, x.voice(0, act, 0), BEYOND);
        due("seller 1", x.voice(1, 0, 0), BEYOND);
        due("seller -1", x.voice(-1, 0, 0), BEYOND);
        due("told", x.told(1), 7);
    }

    private static void trace() {
        says("THE TRACE's i-th. NONE: there is none such.");
        FallingSlates x = new FallingSlates();
        int[] no = {-1, 4, 40, MIN, MAX};
        due("none yet", x.trace(0), NONE);
        x.seller(0, 0, 0);
        x.voice(0, 3, 0);
        int[] bodies = {13, 11, 10, 12};
        for (int i = 0; i < 4; i++) due("trace(" + i + ")", x.trace(i), bodies[i]);
        for (int i : no) due("trace(" + i + ")", x.trace(i), NONE);
        due("told", x.told(2), 6);
    }

    private static void sheet() {
        says("A SHEET has n numbers, all 0, of so many bits (8, 16, 32; 0: it is missing, n doesn't matter): 1. BEYOND.");
        FallingSlates x = new FallingSlates();
        int[] all = {8, 16, 32};
        for (int bits : all) {
            due("40", x.sheet(1, bits, 40), 1);
            due("0", x.sheet(1, bits, 0), 1);
            due("41", x.sheet(1, bits, 41), BEYOND);
            due("MAX", x.sheet(1, bits, MAX), BEYOND);
            due("it stays as it was", x.put(1, 0, 0), BEYOND);
        }
        int[] any = {0, 40, 41, -1, MIN, MAX};
        for (int n : any) {
            x.sheet(1, 8, 3);
            due("missing, n " + n, x.sheet(1, 0, n), 1);
            due("it is missing", x.put(1, 0, 0), NONE);
        }
        due("missing already", x.sheet(1, 0, 0), 1);
        int[] no = {-1, 4, MIN, MAX};
        for (int s : no) {
            due("SHEET " + s, x.sheet(s, 8, 1), BEYOND);
            due("SHEET " + s + " missing", x.sheet(s, 0, 1), BEYOND);
        }
    }

    private static void sheetAllZero() {
        says("A SHEET has n numbers, all 0,");
        FallingSlates x = new FallingSlates();
        putAll(x, 0, 16, 1, 2, 3, 4, 5, 6);
        x.sheet(0, 32, 6);
        due("both are SORTS", x.sorts(0), 2);
        for (int i = 0; i < 6; i++) due("0", x.ofSort(i / 3, i % 3), 0);
        putAll(x, 0, 16, 1, 2, 3, 4, 5, 6);
        x.sheet(0, 16, 3);
        x.sheet(0, 16, 6);
        due("both are SORTS", x.sorts(0), 2);
        for (int i = 6; i < 12; i++) due("0 behind a shorter one, too", x.ofSort(i / 3, i % 3), 0);
        putAll(x, 0, 16, 1, 2, 3);
        x.sheet(0, 0, 0);
        x.sheet(0, 16, 3);
        due("one", x.sorts(0), 1);
        due("0 behind a missing one, too", x.ofSort(4, 1), 0);
    }

    private static void sheetBelowZero() {
        says("STATE: n is below 0 (ahead of BEYOND of n).");
        FallingSlates x = new FallingSlates();
        putAll(x, 0, 8, 1, 2, 3);
        int[] bits = {8, 16, 32};
        for (int b : bits) {
            due("-1", x.sheet(0, b, -1), STATE);
            due("MIN", x.sheet(0, b, MIN), STATE);
        }
        due("of no SHEET: BEYOND first", x.sheet(4, 8, -1), BEYOND);
        due("of no bits: BEYOND first", x.sheet(0, 9, -1), BEYOND);
        due("missing: n doesn't matter", x.sheet(1, 0, -1), 1);
        due("it stays as it was", x.sorts(0), 1);
        due("it stays as it was", x.ofSort(0, 1), 2);
        due("told", x.told(3), 6);
    }

    private static void putLowestBits() {
        says("Number i of a SHEET becomes v (its lowest bits): 1.");
        int[] all = {8, 16, 32};
        for (int bits : all) {
            int over = bits == 8 ? 256 : bits == 16 ? 65536 : 0;
            FallingSlates x = new FallingSlates();
            putAll(x, 0, bits, 3 + over, 100 - over, 4 + 5 * over, 9, 127, 9 - 3 * over);
            due(bits + " bits", x.sorts(0), 2);
            int[] want = {3, 100, 4, 9, 127, 9};
            for (int i = 0; i < 6; i++) due(bits + " bits: " + i, x.ofSort(i / 3, i % 3), want[i]);
        }
        FallingSlates x = new FallingSlates();
        int[] not = {256 + 3, 65536 + 3, MIN + 3};
        for (int i = 0; i < 3; i++) {
            putAll(x, 1, 32, not[i], 5, 5);
            due("32 bits keep all of " + not[i], x.sorts(1), 0);
            putAll(x, 1, 16, not[i], 5, 5);
            due("16 bits of " + not[i], x.sorts(1), i == 0 ? 0 : 1);
            putAll(x, 1, 8, not[i], 5, 5);
            due("8 bits of " + not[i], x.sorts(1), 1);
        }
        x = new FallingSlates();
        putAll(x, 1, 8, -1, 5, 5);
        due("-1 stays -1, or 255: no COME", x.sorts(1), 0);
        putAll(x, 1, 16, 5, 999, 5);
        due("999 in 16 bits", x.sorts(1), 1);
        due("999", x.ofSort(0, 1), 999);
    }

    private static void putRefused() {
        says("BEYOND: no such SHEET. NONE: it is missing. BEYOND: no such number.");
        FallingSlates x = new FallingSlates();
        int[] no = {-1, 4, MIN, MAX};
        for (int s : no) due("SHEET " + s, x.put(s, 0, 0), BEYOND);
        for (int i : no) due("missing, ahead of number " + i, x.put(0, i, 0), NONE);
        x.sheet(0, 8, 4);
        for (int i : no) due("number " + i, x.put(0, i, 0), BEYOND);
        due("the first", x.put(0, 0, 0), 1);
        due("the last", x.put(0, 3, 0), 1);
        x.sheet(0, 8, 0);
        due("an empty one", x.put(0, 0, 0), BEYOND);
        due("BEYOND", x.told(1), 9);
        due("NONE", x.told(2), 4);
    }

    /** What is in a sheet of six numbers, as sorts tell it on the object itself. */
    private static void holds(FallingSlates x, int sheet, int... want) {
        int from = x.count(2);
        due("two sorts", x.sorts(sheet), 2);
        for (int i = 0; i < 6; i++) due("number " + i, x.ofSort(from + i / 3, i % 3), want[i]);
    }

    private static void moveAsTheyAllWere() {
        says("n numbers of a SHEET, from number i on, come to another one (or the same), from its number j on, "
            + "as they all were: n.");
        int[] all = {8, 16, 32};
        for (int bits : all) {
            FallingSlates x = new FallingSlates();
            putAll(x, 0, bits, 1, 2, 3, 4, 5, 6);
            x.sheet(3, bits, 6);
            due("none", x.move(0, 0, 3, 0, 0), 0);
            holds(x, 3, 0, 0, 0, 0, 0, 0);
            due("one, from the last to the first", x.move(0, 5, 3, 0, 1), 1);
            due("two, to the last", x.move(0, 0, 3, 4, 2), 2);
            holds(x, 3, 6, 0, 0, 0, 1, 2);
            due("all", x.move(0, 0, 3, 0, 6), 6);
            holds(x, 3, 1, 2, 3, 4, 5, 6);
            holds(x, 0, 1, 2, 3, 4, 5, 6);
        }
        FallingSlates x = new FallingSlates();
        x.sheet(0, 16, 40);
        x.sheet(1, 16, 40);
        due("forty", x.move(0, 0, 1, 0, 40), 40);
        due("none, behind the last", x.move(0, 40, 1, 40, 0), 0);
        due("one more", x.move(0, 0, 1, 0, 41), BEYOND);
    }

    private static void moveWithinOneSheet() {
        says("come to another one (or the same),");
        FallingSlates x = new FallingSlates();
        putAll(x, 2, 16, 1, 2, 3, 4, 5, 6);
        due("upward by one", x.move(2, 0, 2, 1, 5), 5);
        holds(x, 2, 1, 1, 2, 3, 4, 5);
        putAll(x, 2, 16, 1, 2, 3, 4, 5, 6);
        due("downward by one", x.move(2, 1, 2, 0, 5), 5);
        holds(x, 2, 2, 3, 4, 5, 6, 6);
        putAll(x, 2, 16, 1, 2, 3, 4, 5, 6);
        due("onto itself", x.move(2, 0, 2, 0, 6), 6);
        holds(x, 2, 1, 2, 3, 4, 5, 6);
        x = new FallingSlates();
        putAll(x, 2, 16, 1, 2, 3, 4, 5, 6);
        due("upward by two", x.move(2, 0, 2, 2, 4), 4);
        holds(x, 2, 1, 2, 1, 2, 3, 4);
        putAll(x, 2, 16, 1, 2, 3, 4, 5, 6);
        due("downward by two", x.move(2, 2, 2, 0, 4), 4);
        holds(x, 2, 3, 4, 5, 6, 5, 6);
    }

    private static void moveRefused() {
        says("BEYOND: no such SHEET. NONE: one is missing. KIND: they are of unlike bits. "
            + "BEYOND: n, i, or j is below 0, or they don't stand there.");
        FallingSlates x = new FallingSlates();
        x.sheet(0, 16, 6);
        x.sheet(1, 16, 4);
        x.sheet(2, 8, 4);
        int[] no = {-1, 4, MIN, MAX};
        for (int s : no) {
            due("from " + s, x.move(s, 0, 0, 0, 1), BEYOND);
            due("to " + s, x.move(0, 0, s, 0, 1), BEYOND);
            due("BEYOND ahead of NONE", x.move(3, 0, s, 0, 1), BEYOND);
            due("BEYOND ahead of NONE", x.move(s, 0, 3, 0, 1), BEYOND);
        }
        due("from a missing one", x.move(3, 0, 0, 0, 1), NONE);
        due("to a missing one", x.move(0, 0, 3, 0, 1), NONE);
        due("from a missing one to itself", x.move(3, 0, 3, 0, 0), NONE);
        due("NONE ahead of BEYOND", x.move(0, -1, 3, 0, 1), NONE);
        due("16 to 8", x.move(0, 0, 2, 0, 1), KIND);
        due("8 to 16", x.move(2, 0, 0, 0, 0), KIND);
        due("KIND ahead of BEYOND", x.move(0, -1, 2, -1, -1), KIND);
        int[][] beyond = {{0, 0, -1}, {-1, 0, 0}, {0, -1, 0}, {-1, 0, 1}, {0, -1, 1}, {6, 0, 1}, {7, 0, 0}, {0, 4, 1},
            {0, 5, 0}, {0, 0, 5}, {3, 0, 4}, {0, 1, 4}, {MAX, 0, 1}, {0, MAX, 1}, {0, 0, MAX}, {1, 1, MAX}, {MAX, MAX, MAX},
            {MIN, 0, 1}, {0, MIN, 1}, {0, 0, MIN}, {MIN, MIN, MIN}, {MAX, 0, 0}, {0, MAX, 0}};
        for (int[] b : beyond) due("move(0, " + b[0] + ", 1, " + b[1] + ", " + b[2] + ")", x.move(0, b[0], 1, b[1], b[2]), BEYOND);
        int[][] fits = {{0, 0, 4}, {2, 0, 4}, {6, 4, 0}, {5, 3, 1}, {0, 0, 0}};
        for (int[] f : fits) due("move(0, " + f[0] + ", 1, " + f[1] + ", " + f[2] + ")", x.move(0, f[0], 1, f[1], f[2]), f[2]);
    }

    /** A market with a bit of everything, on day 2. */
    private static FallingSlates market() {
        FallingSlates x = new FallingSlates();
        x.seller(1, 10, 1002);
        x.seller(2, 20, 505);
        x.sort(3, 470, 2);
        x.days(2);
        x.now(0, 1);
        x.now(1, 11);
        x.now(2, 12);
        x.now(3, 13);
        x.now(4, 14);
        x.seed(15);
        read(x, 0, "16");
        read(x, 1, "17");
        feedAll(x, "18");
        x.tell(890);
        return x;
    }

    private static void isMarket(FallingSlates x) {
        int[] counts = {2, 2, 1, 1, 0, 2, 1};
        for (int what = 0; what < counts.length; what++) due("count(" + what + ")", x.count(what), counts[what]);
        due("z", x.count(8), 15);
        int[][] of = {{1, 10, 100, 2, 4, -400, 890}, {2, 20, 50, 5, 4, -500 + 6 * 460, 460}};
        for (int i = 0; i < 2; i++) {
            for (int what = 0; what < 7; what++) due("ofSeller(" + i + ", " + what + ")", x.ofSeller(i, what), of[i][what]);
        }
        int[] ofSort = {3, 470, 2, 0, 564};
        for (int what = 0; what < 5; what++) due("ofSort(0, " + what + ")", x.ofSort(0, what), ofSort[what]);
        due("THE LAW", x.law(0, 0, 0, 0, 0), 16);
        due("BUYS", x.law(1, 0, 0, 0, 0), 17);
        due("the number that waits", x.check(0), 2);
        due("THE TAPE", x.text(0), 1);
        due("THE TAPE was 18", x.law(0, 0, 0, 0, 0), 18);
        int[] nows = {1, 11, 12, 13, 14};
        for (int what = 0; what < 5; what++) due("now(" + what + ")", x.now(what, 0), nows[what]);
    }

    private static void changeAll(FallingSlates x) {
        x.seller(3, 3, 3);
        x.sort(4, 4, 4);
        x.year(5);
        for (int what = 0; what <= 4; what++) x.now(what, 2);
        for (int i = 0; i < 2; i++) {
            x.set(i, 0, 50);
            x.set(i, 1, 51);
            x.set(i, 2, -1);
        }
        x.seed(9);
        x.tell(1);
        x.text(0);
        read(x, 1, "4");
        feedAll(x, "123");
    }

    private static void imageKeepsAll() {
        says("is kept as an IMAGE, in place of one ahead: how often that was done.");
        FallingSlates x = market();
        due("once", x.image(), 1);
        isMarket(x);
        changeAll(x);
        x.restore();
        isMarket(x);
        x = market();
        x.check(0);
        x.text(0);
        x.image();
        x.tell(5);
        feedAll(x, "5");
        x.restore();
        due("none wait", x.count(6), 0);
        due("an empty TAPE", x.count(5), 0);
        x = new FallingSlates();
        due("of a new object", x.image(), 1);
        changeAll(x);
        due("TODAY", x.restore(), 0);
        due("no SELLERS", x.count(1), 0);
        due("no SORTS", x.count(2), 0);
        due("no LAW of its own", x.law(0, 1, 0, 0, 1), 1);
        due("no BUYS of its own", x.law(1, 1, 0, 0, 1), 0);
        due("a SELLER as a new one", x.seller(0, 0, 0), 0);
        due("its STOCK", x.ofSeller(0, 4), 0);
        due("its PURSE", x.ofSeller(0, 5), 0);
        due("its SLATE", x.ofSeller(0, 6), -1);
        due("a SORT as a new one", x.sort(1, 2, 3), 0);
        due("its WAITING", x.ofSort(0, 3), 0);
    }

    private static void imageKeepsNot() {
        says("All (but SHEETS, THE TRACE, what told() tells, and how often this was done)");
        FallingSlates x = market();
        putAll(x, 0, 16, 1, 2, 3);
        x.voice(0, 1, 0);
        x.restore();
        due("once", x.image(), 1);
        putAll(x, 0, 16, 4, 5, 6);
        x.sheet(1, 8, 3);
        x.voice(0, 0, 0);
        x.restore();
        due("SHEETS stay", x.sorts(0), 1);
        due("SHEETS stay", x.ofSort(1, 0), 4);
        due("a SHEET stays that was missing", x.sorts(1), 1);
        due("THE TRACE stays", x.count(7), 1);
        due("THE TRACE stays", x.trace(0), 10);
        due("what is told stays", x.told(2), 1);
        x.count(9);
        x.restore();
        due("what is told stays", x.told(1), 1);
        due("twice", x.image(), 2);
        x.restore();
        due("how often stays", x.image(), 3);
    }

    private static void imageInPlace() {
        says("in place of one ahead: how often that was done.");
        FallingSlates x = new FallingSlates();
        for (int i = 1; i <= 60; i++) {
            x.days(1);
            due("so often", x.image(), i);
            x.days(1);
            due("the latest", x.restore(), i);
        }
        x.seller(0, 0, 0);
        x.image();
        x.seller(0, 0, 0);
        x.restore();
        due("one SELLER", x.count(1), 1);
    }

    private static void restore() {
        says("All is as the IMAGE has it, which stays: TODAY. NONE: there is none.");
        FallingSlates x = new FallingSlates();
        due("none", x.restore(), NONE);
        due("none", x.restore(), NONE);
        due("told", x.told(2), 2);
        x.days(7);
        x.image();
        due("TODAY", x.restore(), 7);
        goTo(x, 399);
        due("TODAY", x.restore(), 7);
        due("days go by again", x.days(60), 67);
    }

    private static void imageStays() {
        says("All is as the IMAGE has it, which stays: TODAY. NONE: there is none.");
        FallingSlates x = market();
        x.image();
        for (int round = 0; round < 4; round++) {
            changeAll(x);
            due("TODAY", x.restore(), 2);
            isMarket(x);
        }
        x.restore();
        due("three days behind it", x.days(3), 5);
        int slate = x.ofSeller(1, 6);
        x.restore();
        x.days(3);
        due("alike", x.ofSeller(1, 6), slate);
    }

    private static void tell() {
        says("One more number waits: how many. FULL: 20 wait.");
        FallingSlates x = new FallingSlates();
        int[] any = {MIN, MAX, 0, -1, LOW - 1};
        for (int i = 1; i <= 20; i++) due("so many", x.tell(any[i % 5]), i);
        due("20 wait", x.tell(0), FULL);
        due("20", x.count(6), 20);
        due("again", x.tell(0), FULL);
        due("told", x.told(4), 2);
        x.check(0);
        due("none waited", x.tell(0), 1);
    }

    private static void checkAlike() {
        says("The numbers that wait (none do then) are what is on the SLATES of all SELLERS AHEAD by n, by numbers "
            + "(-1: nothing): 0;");
        FallingSlates x = new FallingSlates();
        due("no SELLERS, no numbers", x.check(0), 0);
        due("no SELLERS, no numbers", x.check(60), 0);
        for (int i = 0; i < 6; i++) x.seller(i, 10, 0);
        int[][] want = {{-1, -1, -1, -1, -1, -1}, {500, 900, 490, 490, 500, 500}, {500, 890, 480, 480, 500, 500},
            {500, 310, 0, 0, 500, 500}};
        int[] days = {0, 1, 2, 60};
        for (int d = 0; d < days.length; d++) {
            for (int v : want[d]) x.tell(v);
            due("ahead by " + days[d], x.check(days[d]), 0);
            due("none wait then", x.count(6), 0);
        }
        x.set(3, 2, 0);
        int[] zero = {-1, -1, -1, 0, -1, -1};
        for (int v : zero) x.tell(v);
        due("0 is not nothing", x.check(0), 0);
    }

    private static void checkUnlike() {
        says("else 1 and the place (from 0) of the first that isn't so,");
        FallingSlates x = new FallingSlates();
        for (int i = 0; i < 6; i++) x.seller(0, 0, 0);
        for (int i = 0; i < 6; i++) x.set(i, 2, 100 + i);
        for (int place = 0; place < 6; place++) {
            for (int i = 0; i < 6; i++) x.tell(i < place ? 100 + i : -1);
            due("place " + place, x.check(0), 1 + place);
            due("none wait then", x.count(6), 0);
        }
        for (int i = 0; i < 6; i++) x.tell(i == 2 ? 0 : 100 + i);
        due("one alone", x.check(0), 3);
        for (int i = 0; i < 20; i++) x.tell(100 + i);
        due("more than SELLERS", x.check(0), 7);
        x.tell(101);
        due("unlike ahead of missing", x.check(0), 1);
        x.set(0, 2, -1);
        x.tell(0);
        due("nothing is not 0", x.check(0), 1);
        FallingSlates y = new FallingSlates();
        y.tell(-1);
        due("no SELLERS at all", y.check(0), 1);
    }

    private static void checkMissing() {
        says("or is missing.");
        FallingSlates x = new FallingSlates();
        for (int i = 0; i < 6; i++) x.seller(0, 0, 0);
        for (int many = 0; many < 6; many++) {
            for (int i = 0; i < many; i++) x.tell(500);
            due(many + " of 6", x.check(1), 1 + many);
        }
        for (int i = 0; i < 6; i++) x.tell(500);
        due("6 of 6", x.check(1), 0);
        for (int i = 0; i < 7; i++) x.tell(500);
        due("7 of 6", x.check(1), 7);
    }

    private static void checkRefused() {
        says("BEYOND (none wait then, too).");
        FallingSlates x = new FallingSlates();
        int[] no = {-1, 61, MIN, MAX};
        for (int n : no) {
            x.tell(5);
            x.tell(6);
            due("n " + n, x.check(n), BEYOND);
            due("none wait", x.count(6), 0);
        }
        due("told", x.told(1), 4);
        due("and one more waits", x.tell(1), 1);
    }

    private static void count() {
        says("0 TODAY, 1 SELLERS, 2 SORTS, 3 SEASON, 4 all WAITING, 5 bytes of THE TAPE, 6 numbers that wait, "
            + "7 BODIES in THE TRACE, 8 z (any number). BEYOND.");
        FallingSlates x = new FallingSlates();
        for (int i = 0; i < 8; i++) x.sort(9, 0, 1);
        goTo(x, 399);
        for (int i = 0; i < 6; i++) x.seller(6, 0, 0);
        x.now(0, 2);
        feedAll(x, "1".repeat(50));
        for (int i = 0; i < 20; i++) x.tell(i);
        x.voice(5, 3, 0);
        x.seed(MIN);
        int[] want = {399, 6, 8, 2, 792, 50, 20, 13, MIN};
        for (int what = 0; what <= 8; what++) due("count(" + what + ")", x.count(what), want[what]);
        int[] no = {-1, 9, MIN, MAX};
        for (int what : no) due("count(" + what + ")", x.count(what), BEYOND);
        due("told", x.told(1), 4);
        int[] any = {LOW - 1, LOW, MAX, 0};
        for (int z : any) {
            x.seed(z);
            due("z", x.count(8), z);
        }
        due("no ERROR", x.told(1), 4);
    }

    private static void told() {
        says("How many acts have answered an ERROR LOW - k (k 1 .. 5); BEYOND: another k (counted, too).");
        FallingSlates x = new FallingSlates();
        for (int k = 1; k <= 5; k++) due("none yet", x.told(k), 0);
        int[] no = {0, 6, -1, MIN, MAX};
        for (int i = 0; i < no.length; i++) {
            due("told(" + no[i] + ")", x.told(no[i]), BEYOND);
            due("counted, too", x.told(1), i + 1);
        }
        for (int i = 0; i < 2; i++) x.restore();
        for (int i = 0; i < 3; i++) x.sheet(0, 8, -1);
        for (int i = 0; i < 10; i++) x.seller(0, 0, 0);
        for (int i = 0; i < 6; i++) x.as(i % 6, 1);
        int[] want = {5, 2, 3, 4, 6};
        for (int k = 1; k <= 5; k++) due("told(" + k + ")", x.told(k), want[k - 1]);
        read(x, 0, "x");
        x.law(0, 0, 0, 0, 0);
        x.seed(BEYOND);
        x.seed(0);
        for (int k = 1; k <= 5; k++) due("what is no ERROR isn't counted: " + k, x.told(k), want[k - 1]);
    }

    private static void manyCalls() {
        says("An object is used for at most 512 calls after it has been made;");
        FallingSlates x = new FallingSlates();
        for (int i = 1; i < 511; i++) x.image();
        due("the 511th", x.image(), 511);
        due("the 512th", x.restore(), 0);
        x = new FallingSlates();
        for (int i = 1; i < 512; i++) x.count(-1);
        due("the 512th", x.told(1), 511);
        x = new FallingSlates();
        for (int i = 1; i < 511; i += 2) read(x, 0, "1+2");
        due("the 511th", x.text(0), -10);
        due("the 512th", x.law(0, 0, 0, 0, 0), 3);
    }
}
