/** Each promise with answers worked out by hand: ordinary inputs, the edges that the document names, wrong inputs. */
public final class PromisesTest extends Checks {
    public static void main(String[] args) {
        newObject();
        sellers();
        ofSellers();
        newlyAndStubborn();
        sets();
        kinds();
        mays();
        sorts();
        sortsFromSheets();
        nows();
        feeds();
        texts();
        laws();
        wrongUses();
        days();
        daysByOrder();
        dayEdges();
        years();
        thens();
        waits();
        earnedAndLost();
        begins();
        rights();
        tenths();
        gains();
        downs();
        cuts();
        firsts();
        seeds();
        voices();
        traces();
        sheets();
        puts();
        moves();
        images();
        checks();
        counts();
        told();
        end();
    }

    private static void newObject() {
        FallingSlates x = new FallingSlates();
        for (int k = 1; k <= 5; k++) due("1 told", x.told(k), 0);
        for (int what = 0; what <= 7; what++) due("1 count(" + what + ")", x.count(what), 0);
        due("1 count(8)", x.count(8), 1);
        due("1 SEASON", x.now(0, 0), 0);
        for (int s = 1; s <= 3; s++) due("1 HEAT", x.now(s, 10), 10);
        due("1 UP", x.now(4, 0), 0);
        due("1 restore", x.restore(), NONE);
        due("1 trace", x.trace(0), NONE);
        for (int s = 0; s <= 3; s++) due("1 put", x.put(s, 0, 0), NONE);
        due("1 law", x.law(0, 5, 5, 0, 0), 1);
        due("1 ofSeller", x.ofSeller(0, 0), BEYOND);
        due("1 ofSort", x.ofSort(0, 0), BEYOND);
    }

    private static void sellers() {
        FallingSlates x = new FallingSlates();
        int[][] beyond = {{-1, 0, 0}, {7, 0, 0}, {0, -1, 0}, {0, 100, 0}, {0, 0, -1}, {0, 0, 10000}, {MIN, 0, 0},
            {0, MAX, 0}, {0, 0, MIN}};
        for (int[] b : beyond) due("2 seller beyond", x.seller(b[0], b[1], b[2]), BEYOND);
        due("2 none came", x.count(1), 0);
        for (int i = 0; i < 6; i++) due("2 seller", x.seller(i, 10 + i, 1000 * i + i), i);
        due("2 full", x.seller(0, 0, 0), FULL);
        for (int[] b : beyond) due("2 beyond ahead of full", x.seller(b[0], b[1], b[2]), BEYOND);
        for (int i = 0; i < 6; i++) {
            int[] of = {i, 10 + i, 100 * i, i, 0, 0, -1};
            for (int what = 0; what < of.length; what++) due("2 ofSeller(" + i + ", " + what + ")", x.ofSeller(i, what), of[what]);
        }
        x = new FallingSlates();
        due("2 edges", x.seller(6, 99, 9999), 0);
        due("2 COST", x.ofSeller(0, 2), 999);
        due("2 MAKES", x.ofSeller(0, 3), 9);
    }

    /** kind, m, COST, STOCK, SLATE, what it WOULD. */
    private static final int[][] WOULD = {
        {0, 50, 0, 99, -1, 500}, {0, 50, 0, 99, 300, 300}, {0, 50, 999, 0, 0, 0},
        {1, 50, 999, 99, -1, 900}, {1, 50, 999, 99, 300, 250}, {1, 50, 0, 0, 30, 0}, {1, 0, 0, 0, 999, 999}, {1, 5, 0, 0, 0, 0},
        {2, 20, 999, 99, -1, 480}, {2, 20, 0, 99, 300, 280}, {2, 20, 0, 0, 10, 0},
        {3, 30, 0, 19, -1, 470}, {3, 30, 0, 20, -1, 440}, {3, 30, 0, 19, 300, 270}, {3, 30, 0, 20, 300, 240},
        {3, 30, 0, 99, 50, 0},
        {4, 40, 999, 59, -1, 500}, {4, 40, 999, 60, -1, 460}, {4, 40, 0, 59, 300, 300}, {4, 40, 0, 60, 300, 260},
        {4, 40, 0, 60, 10, 0},
        {5, 60, 480, 60, -1, 480}, {5, 60, 400, 60, -1, 440}, {5, 60, 400, 59, -1, 500}, {5, 60, 400, 59, 300, 400},
        {5, 60, 999, 0, 300, 999}, {5, 60, 0, 60, 10, 0},
        {6, 70, 850, 0, 900, 900}, {6, 70, 830, 0, 900, 830}, {6, 70, 831, 0, 900, 900}, {6, 5, 0, 0, 3, 900},
        {6, 5, 0, 0, 5, 0}, {6, 5, 999, 0, -1, 900}, {6, 5, 999, 0, 999, 900}, {6, 5, 0, 0, -1, 900}};

    private static void ofSellers() {
        for (int[] w : WOULD) {
            FallingSlates x = new FallingSlates();
            x.seller(w[0], w[1], 10 * w[2]);
            x.set(0, 0, w[3]);
            x.set(0, 2, w[4]);
            String call = "3 WOULD of " + java.util.Arrays.toString(w);
            due(call, x.ofSeller(0, 7), w[5]);
            due(call + ", STOCK", x.ofSeller(0, 4), w[3]);
            due(call + ", SLATE", x.ofSeller(0, 6), w[4]);
            boolean wiped = w[0] == 6 && w[5] == 900;
            boolean may = w[4] < 0 || wiped || w[5] <= w[4];
            due(call + ", ASKS", x.ofSeller(0, 8), may ? w[5] : w[4]);
            x.days(1);
            due(call + ", asked", x.ofSeller(0, 6), may ? w[5] : w[4]);
        }
        FallingSlates x = new FallingSlates();
        due("3 no seller", x.ofSeller(0, 0), BEYOND);
        x.seller(0, 0, 0);
        due("3 what -1", x.ofSeller(0, -1), BEYOND);
        due("3 what 9", x.ofSeller(0, 9), BEYOND);
        due("3 seller -1", x.ofSeller(-1, 0), BEYOND);
        due("3 seller 1", x.ofSeller(1, 0), BEYOND);
    }

    private static void newlyAndStubborn() {
        FallingSlates x = new FallingSlates();
        x.seller(6, 50, 8700);
        due("3 a law that lets nobody", read(x, 0, "0"), 1);
        x.days(1);
        due("3 nothing on it: asks 900", x.ofSeller(0, 6), 900);
        due("3 would begin anew", x.ofSeller(0, 7), 900);
        x.set(0, 2, 930);
        due("3 880 isn't below", x.ofSeller(0, 7), 880);
        due("3 may not", x.ofSeller(0, 8), 930);
        x.set(0, 2, 500);
        due("3 wiped first", x.ofSeller(0, 8), 900);
        due("3 asking so wipes nothing now", x.ofSeller(0, 6), 500);
        due("3 may: what is there counts", x.may(0, 900), 0);
        x.days(1);
        due("3 begun anew", x.ofSeller(0, 6), 900);

        x = new FallingSlates();
        x.seller(5, 0, 4000);
        x.set(0, 2, 300);
        due("3 STUBBORN may not", x.ofSeller(0, 8), 300);
        x.now(4, 99);
        due("3 nor with 99 upward", x.ofSeller(0, 8), 300);
        x.now(4, 100);
        due("3 but with 100", x.ofSeller(0, 8), 400);
    }

    private static void sets() {
        FallingSlates x = new FallingSlates();
        due("4 no seller", x.set(0, 0, 0), BEYOND);
        x.seller(0, 0, 0);
        due("4 STOCK", x.set(0, 0, 99), 0);
        due("4 STOCK was", x.set(0, 0, 0), 99);
        due("4 STOCK 100", x.set(0, 0, 100), BEYOND);
        due("4 STOCK -1", x.set(0, 0, -1), BEYOND);
        due("4 PURSE", x.set(0, 1, 99999999), 0);
        due("4 PURSE was", x.set(0, 1, -99999999), 99999999);
        due("4 PURSE beyond", x.set(0, 1, 100000000), BEYOND);
        due("4 PURSE below", x.set(0, 1, -100000000), BEYOND);
        due("4 PURSE stays", x.ofSeller(0, 5), -99999999);
        due("4 SLATE", x.set(0, 2, 999), -1);
        due("4 SLATE was", x.set(0, 2, -1), 999);
        due("4 SLATE nothing", x.set(0, 2, 0), -1);
        due("4 SLATE 0", x.set(0, 2, 5), 0);
        due("4 SLATE 1000", x.set(0, 2, 1000), BEYOND);
        due("4 SLATE -2", x.set(0, 2, -2), BEYOND);
        due("4 what 3", x.set(0, 3, 0), BEYOND);
        due("4 what -1", x.set(0, -1, 0), BEYOND);
        due("4 seller -1", x.set(-1, 0, 0), BEYOND);
        due("4 seller 1", x.set(1, 0, 0), BEYOND);
        due("4 SLATE stays", x.ofSeller(0, 6), 5);
    }

    private static void kinds() {
        boolean[][] is = new boolean[7][7];
        int[][] under = {{0, 0}, {1, 1}, {1, 0}, {2, 2}, {2, 0}, {3, 3}, {3, 2}, {3, 0}, {4, 4}, {4, 0}, {5, 5}, {5, 4},
            {5, 0}, {6, 6}, {6, 1}, {6, 0}};
        for (int[] u : under) is[u[0]][u[1]] = true;
        for (int kind = 0; kind < 7; kind++) {
            FallingSlates x = new FallingSlates();
            x.seller(kind, 30 + kind, 0);
            for (int as = 0; as < 7; as++) due("5 " + kind + " as " + as, x.as(0, as), is[kind][as] ? 30 + kind : KIND);
            due("5 kind -1", x.as(0, -1), BEYOND);
            due("5 kind 7", x.as(0, 7), BEYOND);
            due("5 seller 1", x.as(1, kind), BEYOND);
            due("5 seller -1", x.as(-1, 0), BEYOND);
        }
    }

    private static void mays() {
        FallingSlates x = new FallingSlates();
        due("6 no seller", x.may(0, 0), BEYOND);
        x.seller(0, 0, 0);
        due("6 nothing on it", x.may(0, 999), 1);
        x.set(0, 2, 300);
        due("6 as much", x.may(0, 300), 1);
        due("6 more", x.may(0, 301), 0);
        due("6 less", x.may(0, 0), 1);
        x.now(4, 1);
        due("6 so much upward", x.may(0, 301), 1);
        due("6 no more", x.may(0, 302), 0);
        due("6 price 1000", x.may(0, 1000), BEYOND);
        due("6 price -1", x.may(0, -1), BEYOND);
        due("6 seller 1", x.may(1, 0), BEYOND);
        due("6 law of all names", read(x, 0, "p=5&a=300&t=2&u=1"), 1);
        x.days(2);
        due("6 all as named", x.may(0, 5), 1);
        due("6 another price", x.may(0, 6), 0);
        x.set(0, 2, -1);
        due("6 nothing on it: any law", x.may(0, 6), 1);
        x.set(0, 2, 0);
        due("6 0 on it is something", x.may(0, 6), 0);
        due("6 negative is not 0", read(x, 0, "0-1"), 1);
        due("6 negative is not 0", x.may(0, 999), 1);
    }

    private static void sorts() {
        FallingSlates x = new FallingSlates();
        int[][] beyond = {{-1, 0, 0}, {10, 0, 0}, {0, -1, 0}, {0, 1000, 0}, {0, 0, -1}, {0, 0, 10}};
        for (int[] b : beyond) due("7 beyond", x.sort(b[0], b[1], b[2]), BEYOND);
        due("7 none came", x.count(2), 0);
        due("7 edges", x.sort(9, 999, 9), 0);
        for (int i = 1; i < 8; i++) due("7 sort", x.sort(i, 100 * i + 5, 9 - i), i);
        due("7 full", x.sort(0, 0, 0), FULL);
        for (int[] b : beyond) due("7 beyond ahead of full", x.sort(b[0], b[1], b[2]), BEYOND);
        due("8 COME", x.ofSort(3, 0), 3);
        due("8 WORTH", x.ofSort(3, 1), 305);
        due("8 STAYS", x.ofSort(3, 2), 6);
        due("8 WAITING", x.ofSort(3, 3), 0);
        due("8 FEELS", x.ofSort(3, 4), 305);
        x.now(1, 7);
        due("8 FEELS cut", x.ofSort(3, 4), 213);
        x.now(2, 40);
        due("8 HEAT of another SEASON", x.ofSort(3, 4), 213);
        x.now(0, 1);
        due("8 FEELS most", x.ofSort(0, 4), 3996);
        x.days(1);
        due("8 WAITING then", x.ofSort(3, 3), 3);
        due("8 what 5", x.ofSort(0, 5), BEYOND);
        due("8 what -1", x.ofSort(0, -1), BEYOND);
        due("8 sort 8", x.ofSort(8, 0), BEYOND);
        due("8 sort -1", x.ofSort(-1, 0), BEYOND);
    }

    private static void sortsFromSheets() {
        FallingSlates x = new FallingSlates();
        due("9 no such sheet", x.sorts(4), BEYOND);
        due("9 no such sheet", x.sorts(-1), BEYOND);
        due("9 missing", x.sorts(0), NONE);
        x.sheet(0, 8, 0);
        due("9 empty", x.sorts(0), 0);
        putAll(x, 0, 16, 1, 200, 3, 4, 999, 9, 5, 6);
        due("9 one isn't whole", x.sorts(0), 2);
        due("9 the second", x.ofSort(1, 1), 999);
        due("9 the second", x.ofSort(1, 2), 9);
        putAll(x, 0, 32, 1, 2, 3, 4, 1000, 5, 6, 7, 8);
        due("9 one isn't as told", x.sorts(0), 1);
        putAll(x, 0, 32, 10, 2, 3);
        due("9 COME 10", x.sorts(0), 0);
        putAll(x, 0, 32, 1, 2, -1);
        due("9 STAYS -1", x.sorts(0), 0);
        due("9 so many", x.count(2), 3);
        putAll(x, 3, 8, new int[40]);
        due("9 no room", x.sorts(3), 5);
        due("9 full", x.count(2), 8);
        due("9 no room at all is no error", x.sorts(3), 0);
        due("9 nothing told", x.told(4), 0);

        x = new FallingSlates();
        putAll(x, 0, 8, 256 + 3, 512 + 100, 4, 1, 127, 2);
        due("9 lowest 8 bits", x.sorts(0), 2);
        due("9 lowest 8 bits of COME", x.ofSort(0, 0), 3);
        due("9 lowest 8 bits of WORTH", x.ofSort(0, 1), 100);
        due("9 127", x.ofSort(1, 1), 127);
        putAll(x, 0, 8, 1, 200, 2);
        due("9 8 bits are Java's byte: 200 is -56", x.sorts(0), 0);
        putAll(x, 0, 16, 1, 65536 + 200, 2);
        due("9 lowest 16 bits", x.sorts(0), 1);
        due("9 lowest 16 bits of WORTH", x.ofSort(2, 1), 200);
        putAll(x, 0, 32, 1, 65536 + 200, 2);
        due("9 all 32 bits", x.sorts(0), 0);
    }

    private static void nows() {
        FallingSlates x = new FallingSlates();
        due("10 SEASON", x.now(0, 2), 0);
        due("10 SEASON was", x.now(0, 1), 2);
        due("10 SEASON 3", x.now(0, 3), BEYOND);
        due("10 SEASON -1", x.now(0, -1), BEYOND);
        due("10 SEASON stays", x.count(3), 1);
        for (int s = 1; s <= 3; s++) {
            due("10 HEAT", x.now(s, 40), 10);
            due("10 HEAT was", x.now(s, s), 40);
            due("10 HEAT 41", x.now(s, 41), BEYOND);
            due("10 HEAT -1", x.now(s, -1), BEYOND);
        }
        for (int s = 1; s <= 3; s++) due("10 each its own", x.now(s, 0), s);
        due("10 UP", x.now(4, 999), 0);
        due("10 UP was", x.now(4, 0), 999);
        due("10 UP 1000", x.now(4, 1000), BEYOND);
        due("10 UP -1", x.now(4, -1), BEYOND);
        due("10 what 5", x.now(5, 0), BEYOND);
        due("10 what -1", x.now(-1, 0), BEYOND);
        due("10 told", x.told(1), 12);
    }

    private static void feeds() {
        FallingSlates x = new FallingSlates();
        due("11 n 0", x.feed(0, 0), BEYOND);
        due("11 n 9", x.feed(0, 9), BEYOND);
        due("11 n MIN", x.feed(0, MIN), BEYOND);
        due("11 three", x.feed(0xFFFFFFFFFF000000L | '7' | ('-' << 8) | ('2' << 16), 3), 3);
        due("11 the lowest first", x.text(0), 1);
        due("11 7-2", x.law(0, 0, 0, 0, 0), 5);
        for (int i = 1; i <= 6; i++) due("11 eight", x.feed(0x3131312b3131312bL, 8), 8 * i);
        due("11 too many", x.feed(0, 3), FULL);
        due("11 beyond ahead of full", x.feed(0, 9), BEYOND);
        due("11 two more", x.feed(0x3131, 2), 50);
        due("11 no room", x.feed(0, 1), FULL);
        due("11 so many", x.count(5), 50);
        due("11 a fault at 0", x.text(0), -10);
        due("11 empty", x.count(5), 0);
        due("11 byte 7", x.feed(0x312b312b312b312bL >>> 8, 7), 7);
        due("11 all seven", x.text(1), 1);
        due("11 1+1+1+1", x.law(1, 0, 0, 0, 0), 4);
    }

    private static void texts() {
        String good = "p a t u 1234 0 p<a&t<u p<(a<t) !!!!!p (((((p))))) !(!(!p)) !p+!p+!p+!p+!p+!p !(p)+((((p)))) "
            + "p|a&t=u+p-a*t/u%5 (p=a)=(t=u) p=a|t>u 0000+1 !(p>a+u) p<a|p<t|(p<u)<!p ((p))+((p))*!!!!!p";
        for (String t : good.split(" ")) due("12 " + t, read(new FallingSlates(), 0, t), 1);
        Object[][] bad = {{"", 0}, {"p<", 2}, {"p<a<t", 3}, {"p<a=t", 3}, {"p+a<t>u", 5}, {"12345", 4}, {"p+12345", 6},
            {"!!!!!!p", 5}, {"((((((p))))))", 5}, {"!(!(!(p)))", 5}, {"((((!p+!!p))))", 8}, {"!(p)!", 4}, {"p)", 1},
            {"(p", 2}, {"()", 1}, {"f", 0}, {"s", 0}, {" p", 0}, {"p p", 1}, {"+p", 0}, {"p++p", 2}, {"-1", 0},
            {"pp", 1}, {"1p", 1}, {"p1", 1}, {"p==p", 2}, {"p<=p", 2}, {"!", 1}, {"(", 1}, {"p|", 2}, {"p&&p", 2},
            {"p(", 1}, {"p!", 1}, {"P", 0}, {"p" + (char) 200, 1}, {"p" + (char) 0, 1}, {"(p<a<t)", 4}, {"p<(a)<t", 5},
            {"p=a&t<u>p", 7}, {"*", 0}, {")", 0}, {"(p))", 3}, {"p\n", 1}, {"12345)", 4}, {"!!!!!(p)", 5}};
        for (Object[] b : bad) {
            FallingSlates x = new FallingSlates();
            due("12 fault of " + b[0], read(x, 0, (String) b[0]), -10 - (Integer) b[1]);
            due("12 the tape is empty then", x.count(5), 0);
            due("12 no error", x.told(1), 0);
        }
        String fifty = "p+a+t+u+p+a+t+u+p+a+t+u+p+a+t+u+p+a+t+u+p+a+t+u+12";
        due("12 fifty", read(new FallingSlates(), 0, fifty), 1);
        due("12 fifty too early", read(new FallingSlates(), 0, fifty.substring(0, 48) + "1+"), -60);
        due("12 names of BUYS", read(new FallingSlates(), 1, "p+f+s+t"), 1);
        due("12 no a in BUYS", read(new FallingSlates(), 1, "p+a"), -12);
        due("12 no u in BUYS", read(new FallingSlates(), 1, "u"), -10);

        FallingSlates x = new FallingSlates();
        read(x, 0, "7");
        due("12 another", read(x, 0, "8"), 1);
        due("12 in place of one ahead", x.law(0, 0, 0, 0, 0), 8);
        due("12 a fault", read(x, 0, "8+"), -12);
        due("12 the one ahead stays", x.law(0, 0, 0, 0, 0), 8);
        due("12 the other use has none", x.law(1, 5, 4, 0, 0), 0);
        feedAll(x, "9");
        due("12 beyond", x.text(2), BEYOND);
        due("12 beyond", x.text(-1), BEYOND);
        due("12 the tape stays", x.count(5), 1);
        due("12 and is read", x.text(1), 1);
        due("12 nine", x.law(1, 0, 0, 0, 0), 9);
    }

    private static void laws() {
        Object[][] values = {{"1+2*3", 7}, {"7/2*2", 6}, {"0-7/2", -3}, {"(0-7)/2", -3}, {"(0-7)%2", -1}, {"7%(0-2)", 1},
            {"7%0", 0}, {"7/0", 0}, {"2-3-4", -5}, {"2-(3-4)", 3}, {"!5", 0}, {"!0", 1}, {"!!5", 1}, {"5|0", 1}, {"0|0", 0},
            {"5&2", 1}, {"5&0", 0}, {"3", 3}, {"0012", 12}, {"9999*9999*9999", 9999 * 9999 * 9999}, {"1+2<4", 1},
            {"3<3", 0}, {"3=3", 1}, {"3>3", 0}, {"4>3", 1}, {"3>4", 0}, {"2=3", 0}, {"!0+1", 2}, {"!(0+1)", 0}, {"1|0&0", 1},
            {"(1|0)&0", 0}, {"0=0&0", 0}, {"1&2=2", 1}, {"8%5*2", 6}, {"8-5%3", 6}, {"!0*5", 5},
            {"0-1|0", 1}, {"0|7/0", 0}, {"100/7/2", 7}};
        for (Object[] v : values) {
            FallingSlates x = new FallingSlates();
            due("12 " + v[0], read(x, 0, (String) v[0]), 1);
            due("13 " + v[0], x.law(0, 0, 0, 0, 0), (Integer) v[1]);
        }
        FallingSlates x = new FallingSlates();
        due("13 the law as it is", x.law(0, 5, 5, 0, 0), 1);
        due("13 more", x.law(0, 6, 5, 0, 0), 0);
        due("13 upward", x.law(0, 6, 5, 0, 1), 1);
        due("13 TODAY is nothing to it", x.law(0, 6, 5, 99, 0), 0);
        due("13 goes round", x.law(0, 0, MAX, 0, 1), 0);
        due("13 BUYS as it is", x.law(1, 5, 5, 0, 0), 1);
        due("13 too dear", x.law(1, 6, 5, 9, 9), 0);
        due("13 names", read(x, 0, "p*1000+a*100+t*10+u"), 1);
        due("13 names in order", x.law(0, 1, 2, 3, 4), 1234);
        due("13 names", read(x, 1, "p*1000+f*100+s*10+t"), 1);
        due("13 names in order", x.law(1, 1, 2, 3, 4), 1234);
        due("13 any number", x.law(1, -2000000, 0, 0, 0), -2000000000);
        due("13 is no error", x.told(1), 0);
        read(x, 0, "p/a");
        due("13 the least by -1", x.law(0, MIN, -1, 0, 0), MIN);
        due("13 by 0", x.law(0, 5, 0, 0, 0), 0);
        read(x, 0, "p%a");
        due("13 its rest", x.law(0, MIN, -1, 0, 0), 0);
        due("13 rest by 0", x.law(0, 5, 0, 0, 0), 0);
        read(x, 0, "p-a");
        due("13 goes round", x.law(0, MIN, 1, 0, 0), MAX);
        read(x, 0, "p>a");
        due("13 compared, not taken away", x.law(0, MAX, MIN, 0, 0), 1);
    }

    private static void wrongUses() {
        FallingSlates x = new FallingSlates();
        due("13 use 2", x.law(2, 0, 0, 0, 0), BEYOND);
        due("13 use -1", x.law(-1, 0, 0, 0, 0), BEYOND);
        due("13 told", x.told(1), 2);
    }

    private static void days() {
        FallingSlates x = new FallingSlates();
        x.seller(2, 20, 505);
        x.sort(3, 470, 2);
        due("14 a day", x.days(1), 1);
        due("14 STOCK", x.ofSeller(0, 4), 5);
        due("14 PURSE", x.ofSeller(0, 5), -250);
        due("14 SLATE", x.ofSeller(0, 6), 480);
        due("14 WAITING", x.ofSort(0, 3), 3);
        due("14 a day", x.days(1), 2);
        due("14 STOCK", x.ofSeller(0, 4), 4);
        due("14 PURSE", x.ofSeller(0, 5), -500 + 6 * 460);
        due("14 SLATE", x.ofSeller(0, 6), 460);
        due("14 WAITING", x.ofSort(0, 3), 0);
        due("14 n 0", x.days(0), BEYOND);
        due("14 n 61", x.days(61), BEYOND);
        due("14 n MIN", x.days(MIN), BEYOND);
        for (int i = 1; i <= 6; i++) due("14 days", x.days(60), 2 + 60 * i);
        due("14 above 399", x.days(38), STATE);
        due("14 beyond ahead of it", x.days(61), BEYOND);
        due("14 up to 399", x.days(37), 399);
        due("14 no more", x.days(1), STATE);
        due("14 TODAY", x.count(0), 399);
    }

    private static void daysByOrder() {
        FallingSlates x = new FallingSlates();
        for (int i = 0; i < 4; i++) x.seller(0, 0, 0);
        int[] prices = {300, 200, 200, 100};
        int[] stocks = {9, 3, 4, 0};
        for (int i = 0; i < 4; i++) {
            x.set(i, 2, prices[i]);
            x.set(i, 0, stocks[i]);
        }
        x.sort(5, 250, 0);
        x.sort(9, 300, 1);
        x.days(1);
        due("14 of like ones the least number first", x.ofSeller(1, 4), 0);
        due("14 the next then", x.ofSeller(2, 4), 0);
        due("14 the dearest last", x.ofSeller(0, 4), 2);
        due("14 nothing to sell", x.ofSeller(3, 5), 0);
        due("14 PURSE", x.ofSeller(1, 5), 600);
        due("14 PURSE", x.ofSeller(2, 5), 800);
        due("14 PURSE", x.ofSeller(0, 5), 2100);
        x.days(1);
        due("14 the first sort finds none and goes", x.ofSort(0, 3), 0);
        due("14 the second waits", x.ofSort(1, 3), 7);

        x = new FallingSlates();
        int[] unsorted = {400, 200, 500, 300, 100, 200};
        int[] left = {0, 0, 1, 0, 0, 0};
        for (int i = 0; i < 6; i++) {
            x.seller(0, 0, 0);
            x.set(i, 2, unsorted[i]);
            x.set(i, 0, 1);
        }
        x.sort(1, 999, 0);
        int[] order = {4, 1, 5, 3, 0};
        for (int i : order) {
            due("14 the cheapest first: " + i, x.ofSeller(i, 4), 1);
            x.days(1);
            due("14 the cheapest first: " + i, x.ofSeller(i, 4), 0);
        }
        for (int i = 0; i < 6; i++) due("14 STOCK", x.ofSeller(i, 4), left[i]);
        for (int i = 0; i < 6; i++) x.set(i, 0, 1);
        for (int i = 0; i < 4; i++) x.sort(1, 999, 0);
        x.days(1);
        for (int i = 0; i < 6; i++) due("14 STOCK once more", x.ofSeller(i, 4), left[i]);

        x = new FallingSlates();
        x.seller(0, 0, 0);
        x.seller(0, 0, 0);
        x.set(0, 2, 100);
        x.set(0, 0, 9);
        x.set(1, 2, 200);
        x.set(1, 0, 9);
        x.sort(4, 500, 3);
        read(x, 1, "p=200&f=500&s=3&t=1");
        x.days(1);
        due("14 nobody bought on day 0", x.ofSort(0, 3), 4);
        x.days(1);
        due("14 by BUYS at each price: not the cheaper", x.ofSeller(0, 4), 9);
        due("14 by BUYS at each price: the dearer", x.ofSeller(1, 4), 1);
    }

    private static void dayEdges() {
        FallingSlates x = new FallingSlates();
        x.sort(9, 100, 1);
        x.sort(9, 100, 0);
        x.days(12);
        due("14 99 wait at most", x.ofSort(0, 3), 99);
        due("14 none wait if none stays", x.ofSort(1, 3), 0);
        x.seller(0, 0, 75);
        x.set(0, 0, 97);
        x.days(1);
        due("14 99 in STOCK at most", x.ofSeller(0, 4), 99);
        due("14 all that is made is paid", x.ofSeller(0, 5), -35);
        x.set(0, 1, -99999990);
        x.days(1);
        due("14 PURSE held below", x.ofSeller(0, 5), -99999999);
        x.set(0, 1, 99999990);
        x.set(0, 2, 100);
        x.days(1);
        due("14 all who are there buy, as STOCK has", x.ofSeller(0, 4), 0);
        due("14 PURSE held above", x.ofSeller(0, 5), 99999999);
        due("14 108 were there, 99 bought", x.ofSort(0, 3), 9);
        x.now(4, 999);
        x.set(0, 0, 20);
        x.set(0, 2, 40);
        x.days(1);
        due("14 MAKES is there to sell on the day", x.ofSeller(0, 4), 0);

        x = new FallingSlates();
        x.seller(3, 30, 15);
        x.set(0, 0, 15);
        x.days(1);
        due("14 STOCK of the day makes it HURRIED", x.ofSeller(0, 6), 440);
        x.seller(5, 0, 4000);
        x.set(1, 2, 300);
        read(x, 0, "t>2");
        x.days(2);
        due("14 THE LAW by TODAY: not yet", x.ofSeller(1, 6), 300);
        x.days(1);
        due("14 THE LAW by TODAY", x.ofSeller(1, 6), 400);
    }

    private static void years() {
        FallingSlates x = new FallingSlates();
        due("15 n 0", x.year(0), BEYOND);
        due("15 n 61", x.year(61), BEYOND);
        due("15 a draw", x.year(1), 2);
        due("15 z", x.count(8), 1103527590);
        due("15 SEASON", x.count(3), 2);
        due("15 TODAY", x.count(0), 1);
        int z = 1103527590;
        int season = 0;
        for (int i = 0; i < 60; i++) {
            z = z * 1103515245 + 12345;
            season = (z >>> 8) % 3;
        }
        due("15 sixty draws", x.year(60), season);
        due("15 z", x.count(8), z);
        for (int i = 0; i < 5; i++) x.days(60);
        due("15 above 399", x.year(39), STATE);
        due("15 nothing drawn", x.count(8), z);
        due("15 not n", x.year(0), BEYOND);
        x.year(38);
        due("15 399", x.count(0), 399);
        due("15 no more", x.year(1), STATE);

        x = new FallingSlates();
        x.seller(0, 0, 1);
        x.set(0, 2, 500);
        x.sort(1, 500, 0);
        x.now(1, 0);
        x.now(2, 0);
        x.year(1);
        due("15 SEASON ahead of the day", x.ofSeller(0, 5), 500);
        x.seed(-1);
        x.year(1);
        z = -1103515245 + 12345;
        due("15 a draw is never below 0", x.count(3), (z >>> 8) % 3);
    }

    private static void thens() {
        FallingSlates x = new FallingSlates();
        due("16 no seller", x.then(0, 0, 0), BEYOND);
        x.seller(2, 20, 505);
        x.sort(3, 470, 2);
        due("16 as it is", x.then(0, 0, 6), -1);
        due("16 WOULD", x.then(0, 0, 7), 480);
        int[] of = {2, 20, 50, 5, 4, 2260, 460, 440, 440};
        for (int what = 0; what < of.length; what++) due("16 then(2, 0, " + what + ")", x.then(2, 0, what), of[what]);
        due("16 nothing went by", x.count(0), 0);
        due("16 nothing was asked", x.ofSeller(0, 6), -1);
        due("16 nobody waits", x.ofSort(0, 3), 0);
        due("16 n -1", x.then(-1, 0, 0), BEYOND);
        due("16 n 61", x.then(61, 0, 0), BEYOND);
        due("16 what 9", x.then(1, 0, 9), BEYOND);
        due("16 what -1", x.then(1, 0, -1), BEYOND);
        due("16 seller 1", x.then(1, 1, 0), BEYOND);
        due("16 sixty", x.then(60, 0, 6), 0);

        x = new FallingSlates();
        x.seller(1, 10, 0);
        for (int i = 0; i < 6; i++) x.days(60);
        x.days(39);
        x.set(0, 2, 900);
        read(x, 0, "t>399");
        due("16 on day 399", x.then(1, 0, 6), 900);
        due("16 beyond day 399", x.then(2, 0, 6), 890);
        due("16 and on", x.then(60, 0, 6), 310);
        due("16 would ASK by the day then", x.then(0, 0, 8), 900);
        due("16 would ASK by the day then", x.then(1, 0, 8), 890);
    }

    private static void waits() {
        FallingSlates x = new FallingSlates();
        due("17 no sort", x.waits(0, 0), BEYOND);
        x.sort(4, 100, 1);
        x.sort(4, 100, 0);
        due("17 now", x.waits(0, 0), 0);
        due("17 three days", x.waits(3, 0), 12);
        due("17 none stays", x.waits(3, 1), 0);
        due("17 99 at most", x.waits(60, 0), 99);
        due("17 nobody waits now", x.count(4), 0);
        due("17 n -1", x.waits(-1, 0), BEYOND);
        due("17 n 61", x.waits(61, 0), BEYOND);
        due("17 sort 2", x.waits(0, 2), BEYOND);
        due("17 sort -1", x.waits(0, -1), BEYOND);
    }

    private static void earnedAndLost() {
        FallingSlates x = new FallingSlates();
        due("18 nothing", x.earned(60), 0);
        due("19 nothing", x.lost(60), 0);
        x.seller(0, 0, 3000);
        x.set(0, 0, 3);
        x.set(0, 2, 999);
        x.sort(5, 500, 1);
        due("19 nobody waits yet", x.lost(0), 0);
        due("19 three things", x.lost(1), 3);
        x.days(1);
        due("19 three things", x.lost(0), 3);
        x.seller(0, 0, 5000);
        x.set(1, 0, 1);
        x.set(1, 2, 999);
        due("19 COST as FEELS", x.lost(0), 4);
        x.seller(0, 0, 5010);
        x.set(2, 0, 9);
        x.set(2, 2, 999);
        due("19 COST above FEELS", x.lost(0), 4);
        x.now(1, 20);
        due("19 by FEELS, not WORTH", x.lost(0), 5);
        due("19 STOCK is as it was", x.ofSeller(0, 4), 3);
        due("19 WAITING is as it was", x.ofSort(0, 3), 5);
        x.set(0, 1, -7);
        x.set(1, 1, 107);
        due("18 all purses", x.earned(0), 100);
        due("18 n -1", x.earned(-1), BEYOND);
        due("18 n 61", x.earned(61), BEYOND);
        due("19 n -1", x.lost(-1), BEYOND);
        due("19 n 61", x.lost(61), BEYOND);
        x.seller(0, 0, 73);
        x.set(3, 2, 999);
        due("18 ahead: 10 days' makings", x.earned(10), 100 - 10 * 21 + sales(x, 10));
        due("18 nothing went by", x.count(0), 1);

        x = new FallingSlates();
        x.sort(5, 900, 1);
        x.sort(5, 400, 1);
        x.days(1);
        x.seller(0, 0, 3000);
        x.seller(0, 0, 8000);
        x.set(0, 0, 5);
        x.set(1, 0, 5);
        due("19 the first sort with the first seller", x.lost(0), 5);
        x.set(0, 0, 7);
        due("19 the second with what is left", x.lost(0), 7);
    }

    /** All that 5 who wait and 5 a day can buy at 999, as the things that are gone tell it. */
    private static int sales(FallingSlates x, int n) {
        int gone = 3 + 1 + 9 + 3 * n;
        for (int i = 0; i < 4; i++) gone -= x.then(n, i, 4);
        return 999 * gone;
    }

    private static void begins() {
        FallingSlates x = new FallingSlates();
        due("20 no seller", x.begin(0, 1), BEYOND);
        x.seller(0, 0, 1);
        due("20 of several the least", x.begin(0, 1), 0);
        x.sort(1, 455, 0);
        due("20 as dear as it goes", x.begin(0, 1), 450);
        due("20 for nine days", x.begin(0, 9), 450);
        x.seller(2, 20, 1);
        due("20 a STEPPER steps first", x.begin(1, 1), 470);
        due("20 nothing on it still", x.ofSeller(0, 6), -1);
        x.now(1, 40);
        due("20 no dearer than the other", x.begin(0, 1), 480);
        due("20 n 0", x.begin(0, 0), BEYOND);
        due("20 n 10", x.begin(0, 10), BEYOND);
        due("20 seller 2", x.begin(2, 1), BEYOND);
        due("20 seller -1", x.begin(-1, 1), BEYOND);
        x = new FallingSlates();
        x.seller(0, 0, 1);
        x.sort(1, 999, 0);
        due("20 990 at most", x.begin(0, 1), 990);
    }

    private static void rights() {
        FallingSlates x = new FallingSlates();
        due("21 no seller", x.right(0, 1), BEYOND);
        x.seller(0, 0, 1);
        x.set(0, 2, 100);
        x.sort(1, 600, 0);
        due("21 worth 400 a day", x.right(0, 3), 1200);
        due("21 n 0", x.right(0, 0), 0);
        due("21 n 60", x.right(0, 60), 24000);
        due("21 SLATE is as it was", x.ofSeller(0, 6), 100);
        x.set(0, 2, 600);
        due("21 it may be a loss", x.right(0, 3), -300);
        x.set(0, 2, -1);
        due("21 nothing on it", x.right(0, 3), 0);
        due("21 n -1", x.right(0, -1), BEYOND);
        due("21 n 61", x.right(0, 61), BEYOND);
        due("21 seller 1", x.right(1, 1), BEYOND);
    }

    private static void tenths() {
        FallingSlates x = new FallingSlates();
        due("22 none", x.tenth(5, 5), 0);
        x.seller(5, 0, 4001);
        x.set(0, 2, 300);
        x.sort(1, 500, 0);
        due("22 upward enough", x.tenth(3, 100), 300);
        due("22 not enough", x.tenth(3, 99), 0);
        due("22 999", x.tenth(3, 999), 300);
        due("22 UP is as it was", x.now(4, 100), 0);
        due("22 less than there is", x.tenth(3, 0), -300);
        due("22 as there is", x.tenth(3, 100), 0);
        due("22 n 0", x.tenth(0, 5), 0);
        due("22 n 60", x.tenth(60, 0), -6000);
        due("22 n -1", x.tenth(-1, 0), BEYOND);
        due("22 n 61", x.tenth(61, 0), BEYOND);
        due("22 u -1", x.tenth(1, -1), BEYOND);
        due("22 u 1000", x.tenth(1, 1000), BEYOND);
    }

    private static void gains() {
        FallingSlates x = new FallingSlates();
        due("23 none", x.gains(0), NONE);
        due("23 beyond ahead of it", x.gains(61), BEYOND);
        due("23 n -1", x.gains(-1), BEYOND);
        x.seller(0, 0, 1);
        x.seller(5, 0, 4001);
        x.seller(5, 0, 4001);
        for (int i = 0; i < 3; i++) x.set(i, 2, 300);
        due("23 of several the least", x.gains(0), 0);
        x.sort(3, 500, 0);
        due("23 who may not ask its cost", x.gains(1), 1);
        due("23 sixty days", x.gains(60), 1);
        x.set(1, 2, 400);
        due("23 the other", x.gains(1), 2);
        due("23 all is as it was", x.ofSeller(2, 6), 300);
        due("23 the law is as it was", x.may(2, 301), 0);

        x = new FallingSlates();
        x.seller(5, 0, 4001);
        x.seller(0, 0, 1);
        x.set(0, 2, 300);
        x.set(1, 2, 350);
        x.sort(1, 500, 0);
        due("23 who is the cheapest without the law", x.gains(1), 1);
    }

    private static void downs() {
        FallingSlates x = new FallingSlates();
        due("24 no seller", x.down(0, 1, 2, 0), BEYOND);
        x.seller(0, 0, 1);
        x.set(0, 2, 500);
        x.sort(1, 470, 0);
        due("24 first", x.down(0, 1, 2, 0), 50);
        due("24 second", x.down(0, 1, 2, 1), 0);
        due("24 PURSE", x.down(0, 1, 2, -1), 900);
        due("24 three", x.down(0, 1, 3, -1), 1350);
        due("24 two days each", x.down(0, 2, 2, -1), 1800);
        due("24 nine days each", x.down(0, 9, 3, -1), 27 * 450);
        due("24 third", x.down(0, 9, 3, 2), 0);
        x.now(1, 20);
        due("24 no cut is best", x.down(0, 1, 3, 0), 0);
        due("24 SLATE is as it was", x.ofSeller(0, 6), 500);
        x.now(1, 10);
        x.set(0, 2, -1);
        due("24 nothing stays nothing", x.down(0, 1, 2, 0), 0);
        due("24 then 50", x.down(0, 1, 2, 1), 50);
        due("24 PURSE", x.down(0, 1, 2, -1), 450);
        x.set(0, 2, 60);
        x.now(1, 0);
        due("24 0 at least, and the first cut that gets there", x.down(0, 1, 2, 0), 0);
        due("24 i 2 of 2", x.down(0, 1, 2, 2), BEYOND);
        due("24 i 3 of 3", x.down(0, 1, 3, 3), BEYOND);
        due("24 i -2", x.down(0, 1, 2, -2), BEYOND);
        due("24 k 1", x.down(0, 1, 1, 0), BEYOND);
        due("24 k 4", x.down(0, 1, 4, 0), BEYOND);
        due("24 n 0", x.down(0, 0, 2, 0), BEYOND);
        due("24 n 10", x.down(0, 10, 2, 0), BEYOND);
        due("24 seller 1", x.down(1, 1, 2, 0), BEYOND);
        due("24 seller -1", x.down(-1, 1, 2, 0), BEYOND);

        x = new FallingSlates();
        x.seller(0, 0, 1);
        x.set(0, 2, 500);
        x.sort(2, 480, 3);
        read(x, 1, "!(p>f)&t>0");
        due("24 of several the first as a row", x.down(0, 1, 2, 0), 0);
        due("24 of several the first as a row", x.down(0, 1, 2, 1), 20);
        due("24 PURSE", x.down(0, 1, 2, -1), 960);
        x.set(0, 2, 5);
        read(x, 0, "1");
        read(x, 1, "p=0");
        due("24 0 at least", x.down(0, 1, 2, -1), 0);
        read(x, 1, "0");
        x.seller(6, 60, 501);
        x.set(1, 2, 115);
        read(x, 1, "p>100");
        x.set(0, 0, 0);
        due("24 a cut may make it begin anew", x.down(1, 1, 2, -1), 1800 - 100);
    }

    private static void cuts() {
        int[] cuts = {0, 10, 20, 50, 100};
        for (int cut : cuts) {
            FallingSlates x = new FallingSlates();
            x.seller(0, 0, 1);
            x.set(0, 2, 500);
            x.sort(1, 500 - cut, 0);
            due("24 the cut " + cut, x.down(0, 1, 2, 0), cut);
            due("24 PURSE by the cut " + cut, x.down(0, 1, 2, -1), 2 * (500 - cut));
        }
        FallingSlates x = new FallingSlates();
        x.seller(0, 0, 0);
        x.set(0, 0, 9);
        x.set(0, 2, 5);
        x.sort(1, 600, 0);
        due("24 0 at least is not nothing", x.down(0, 1, 2, -1), 10);
        x = new FallingSlates();
        x.seller(6, 0, 10);
        x.set(0, 0, 9);
        x.set(0, 2, 3);
        x.sort(1, 900, 0);
        due("24 down to 0, below COST 1", x.down(0, 1, 2, -1), 1800);
        due("24 down to 0, below COST 1", x.down(0, 1, 2, 0), 10);
    }

    private static void firsts() {
        FallingSlates x = new FallingSlates();
        due("25 no sort", x.first(0), BEYOND);
        x.sort(1, 100, 0);
        due("25 no seller", x.first(0), NONE);
        for (int i = 0; i < 4; i++) x.seller(0, 0, 0);
        for (int i = 0; i < 4; i++) x.set(i, 0, 5);
        due("25 nothing asked", x.first(0), NONE);
        x.set(1, 2, 300);
        due("25 the one who asks", x.first(0), 1);
        x.set(3, 2, 200);
        x.set(2, 2, 200);
        due("25 of like ones the least", x.first(0), 2);
        x.set(2, 0, 0);
        due("25 with a stock", x.first(0), 3);
        x.set(0, 2, 199);
        due("25 the first is the cheapest", x.first(0), 0);
        x.set(0, 2, 0);
        due("25 0 is a price", x.first(0), 0);
        due("25 sort 1", x.first(1), BEYOND);
        due("25 sort -1", x.first(-1), BEYOND);
    }

    private static void seeds() {
        FallingSlates x = new FallingSlates();
        due("26 it was 1", x.seed(MIN), 1);
        due("26 any number", x.seed(LOW - 1), MIN);
        due("26 it was", x.seed(7), LOW - 1);
        due("26 no error", x.told(1), 0);
        due("26 z", x.count(8), 7);
    }

    private static void speaks(FallingSlates x, int seller, int act, int n, int want, int... bodies) {
        String call = "27 voice(" + seller + ", " + act + ", " + n + ")";
        due(call, x.voice(seller, act, n), want);
        due(call + " bodies", x.count(7), bodies.length);
        for (int i = 0; i < bodies.length; i++) due("28 " + call + " trace(" + i + ")", x.trace(i), bodies[i]);
        due("28 " + call + " no more", x.trace(bodies.length), NONE);
    }

    private static void voices() {
        FallingSlates x = new FallingSlates();
        due("27 no seller", x.voice(0, 0, 0), BEYOND);
        int[] ms = {10, 3, 7, 7, 1, 2};
        for (int i = 0; i < 6; i++) x.seller(i, ms[i], 0);
        speaks(x, 0, 0, 5, 5, 10);
        speaks(x, 0, 1, 5, 10, 11, 10);
        speaks(x, 0, 2, 5, -5, 12);
        speaks(x, 0, 3, 5, -15, 13, 11, 10, 12);
        speaks(x, 1, 0, 5, 6, 10);
        speaks(x, 1, 1, 4, 12, 20, 11, 10, 12);
        speaks(x, 2, 0, 4, 18, 30, 10);
        speaks(x, 2, 1, 4, 36, 11, 30, 10);
        speaks(x, 3, 0, 4, 24, 41, 30, 10);
        speaks(x, 3, 2, 4, 3, 40, 12);
        speaks(x, 3, 3, 1, 24, 13, 11, 41, 30, 10, 40, 12);
        speaks(x, 4, 3, 3, 6, 50, 13, 11, 10, 12, 10);
        speaks(x, 5, 2, 9, 2, 60, 12);
        speaks(x, 5, 3, 3, 13, 50, 13, 11, 10, 60, 12, 10);
        speaks(x, 5, 0, MAX, MIN + 4, 10);
        FallingSlates y = new FallingSlates();
        y.seller(6, 4, 0);
        speaks(y, 0, 1, 3, 13, 70, 20, 11, 10, 12);
        speaks(y, 0, 3, 3, 27, 71, 70, 20, 11, 10, 12, 13, 70, 20, 11, 10, 12, 12);
        due("27 act 4", y.voice(0, 4, 0), BEYOND);
        due("27 act -1", y.voice(0, -1, 0), BEYOND);
        due("27 seller 1", y.voice(1, 0, 0), BEYOND);
        due("27 the trace is as it was", y.count(7), 13);
        due("27 any number", y.voice(0, 2, LOW), LOW - 4);
        due("27 is no error", y.told(4), 0);
    }

    private static void traces() {
        FallingSlates x = new FallingSlates();
        x.seller(0, 0, 0);
        x.voice(0, 0, 0);
        due("28 the first", x.trace(0), 10);
        due("28 -1", x.trace(-1), NONE);
        due("28 1", x.trace(1), NONE);
        due("28 MIN", x.trace(MIN), NONE);
        due("28 MAX", x.trace(MAX), NONE);
        due("28 told", x.told(2), 4);
    }

    private static void sheets() {
        FallingSlates x = new FallingSlates();
        due("29 sheet 4", x.sheet(4, 8, 1), BEYOND);
        due("29 sheet -1", x.sheet(-1, 8, -1), BEYOND);
        due("29 bits 24", x.sheet(0, 24, -1), BEYOND);
        due("29 bits -8", x.sheet(0, -8, 1), BEYOND);
        due("29 n -1", x.sheet(0, 8, -1), STATE);
        due("29 n MIN", x.sheet(0, 32, MIN), STATE);
        due("29 n 41", x.sheet(0, 8, 41), BEYOND);
        due("29 missing still", x.put(0, 0, 0), NONE);
        due("29 40", x.sheet(0, 8, 40), 1);
        due("29 its last", x.put(0, 39, 1), 1);
        due("29 none behind it", x.put(0, 40, 1), BEYOND);
        due("29 0", x.sheet(0, 16, 0), 1);
        due("29 none in it", x.put(0, 0, 1), BEYOND);
        due("29 missing, n doesn't matter", x.sheet(0, 0, -5), 1);
        due("29 missing", x.put(0, 0, 1), NONE);
        due("29 missing, n doesn't matter", x.sheet(0, 0, 99), 1);
        putAll(x, 1, 16, 5, 5, 5);
        due("29 again", x.sheet(1, 16, 3), 1);
        due("29 one sort", x.sorts(1), 1);
        due("29 all 0", x.ofSort(0, 0) + x.ofSort(0, 1) + x.ofSort(0, 2), 0);
        due("29 STATE", x.sheet(1, 8, -1), STATE);
        due("29 it stays as it was", x.put(1, 2, 1), 1);
    }

    private static void puts() {
        FallingSlates x = new FallingSlates();
        due("30 no such sheet", x.put(4, 0, 0), BEYOND);
        due("30 no such sheet", x.put(-1, 0, 0), BEYOND);
        due("30 missing ahead of no such number", x.put(3, -1, 0), NONE);
        x.sheet(3, 8, 3);
        due("30 -1", x.put(3, -1, 0), BEYOND);
        due("30 3", x.put(3, 3, 0), BEYOND);
        due("30 any v", x.put(3, 0, MIN), 1);
        due("30 any v", x.put(3, 1, MAX), 1);
        due("30 -1 isn't a WORTH", x.sorts(3), 0);
        due("30 lowest bits", x.put(3, 1, 0x7fffff05), 1);
        due("30 so it is one", x.sorts(3), 1);
        due("30 WORTH", x.ofSort(0, 1), 5);
    }

    private static void moves() {
        FallingSlates x = new FallingSlates();
        putAll(x, 0, 16, 1, 2, 3, 4, 5, 6, 7);
        due("31 no such sheet", x.move(4, 0, 0, 0, 1), BEYOND);
        due("31 no such other", x.move(1, 0, -1, 0, 1), BEYOND);
        due("31 missing", x.move(1, 0, 0, 0, 1), NONE);
        due("31 other missing", x.move(0, 0, 1, 0, -1), NONE);
        x.sheet(1, 8, 3);
        due("31 unlike bits, ahead of n", x.move(0, 0, 1, 0, -1), KIND);
        due("31 onto itself, upward", x.move(0, 0, 0, 1, 6), 6);
        due("31 sorts", x.sorts(0), 2);
        int[] up = {1, 1, 2, 3, 4, 5};
        for (int i = 0; i < 6; i++) due("31 as they all were", x.ofSort(i / 3, i % 3), up[i]);
        due("31 onto itself, downward", x.move(0, 2, 0, 0, 5), 5);
        due("31 sorts", x.sorts(0), 2);
        int[] down = {2, 3, 4, 5, 6, 5};
        for (int i = 0; i < 6; i++) due("31 as they all were", x.ofSort(2 + i / 3, i % 3), down[i]);
        x.sheet(2, 16, 3);
        due("31 to another", x.move(0, 4, 2, 0, 3), 3);
        due("31 sorts", x.sorts(2), 1);
        due("31 the last", x.ofSort(4, 2), 6);
        due("31 none", x.move(0, 7, 2, 3, 0), 0);
        int[][] beyond = {{0, 0, -1}, {-1, 0, 1}, {0, -1, 1}, {5, 0, 3}, {0, 1, 3}, {8, 0, 0}, {0, 4, 0}, {0, 0, 4},
            {MAX, 0, 1}, {0, MAX, 1}, {0, 0, MAX}, {1, 1, MAX}, {MAX, MAX, MAX}, {MIN, MIN, MIN}};
        for (int[] b : beyond) due("31 they don't stand there", x.move(0, b[0], 2, b[1], b[2]), BEYOND);
    }

    private static void images() {
        FallingSlates x = new FallingSlates();
        due("33 none", x.restore(), NONE);
        x.seller(2, 20, 505);
        x.sort(3, 470, 2);
        x.days(1);
        x.now(0, 1);
        x.now(2, 11);
        x.now(4, 12);
        x.seed(13);
        x.tell(480);
        read(x, 0, "7");
        read(x, 1, "8");
        x.feed('9', 1);
        x.sheet(0, 16, 3);
        due("32 once", x.image(), 1);

        x.seller(0, 0, 0);
        x.sort(1, 1, 1);
        x.year(5);
        x.set(0, 0, 50);
        x.set(0, 1, 5000);
        x.set(0, 2, 50);
        x.now(0, 2);
        x.now(2, 21);
        x.now(4, 22);
        x.seed(23);
        x.check(0);
        x.tell(5);
        x.text(0);
        read(x, 1, "8+1");
        x.put(0, 0, 4);
        x.voice(0, 0, 4);
        x.trace(9);
        for (int round = 0; round < 2; round++) {
            due("33 TODAY", x.restore(), 1);
            due("33 TODAY", x.count(0), 1);
            due("33 SELLERS", x.count(1), 1);
            due("33 SORTS", x.count(2), 1);
            due("33 SEASON", x.count(3), 1);
            due("33 WAITING", x.count(4), 3);
            due("33 THE TAPE", x.count(5), 1);
            due("33 numbers that wait", x.count(6), 1);
            due("33 not THE TRACE", x.count(7), 2);
            due("33 z", x.count(8), 13);
            due("33 STOCK", x.ofSeller(0, 4), 5);
            due("33 PURSE", x.ofSeller(0, 5), -250);
            due("33 SLATE", x.ofSeller(0, 6), 480);
            due("33 FEELS", x.ofSort(0, 4), 517);
            due("33 THE LAW", x.law(0, 0, 0, 0, 0), 7);
            due("33 BUYS", x.law(1, 0, 0, 0, 0), 8);
            due("33 the number that waits", x.check(0), 0);
            due("33 the byte", x.text(0), 1);
            due("33 the byte is 9", x.law(0, 0, 0, 0, 0), 9);
            due("33 UP", x.now(4, 22), 12);
            x.seed(99);
            x.days(9);
        }
        due("33 not what is told", x.told(2), 2);
        due("33 not SHEETS", x.sorts(0), 1);
        due("33 not SHEETS", x.ofSort(1, 0), 4);
        due("33 a new one begins anew", x.restore(), 1);
        due("33 a seller", x.seller(4, 4, 4), 1);
        due("33 nothing of an older one", x.ofSeller(1, 6), -1);
        due("33 no STOCK of an older one", x.ofSeller(1, 4), 0);
        due("33 a sort", x.sort(4, 4, 4), 1);
        due("33 nobody of an older one", x.ofSort(1, 3), 0);
        due("32 twice", x.image(), 2);
        x.days(1);
        due("33 in place of one ahead", x.restore(), 1);
        due("33 two sellers", x.count(1), 2);
        x.days(2);
        due("32 thrice", x.image(), 3);
        due("33 TODAY", x.restore(), 3);
    }

    private static void checks() {
        FallingSlates x = new FallingSlates();
        for (int i = 1; i <= 20; i++) due("34 tell", x.tell(i * 1000000), i);
        due("34 full", x.tell(1), FULL);
        due("34 twenty", x.count(6), 20);
        due("35 no such seller", x.check(0), 1);
        due("35 none wait", x.count(6), 0);
        due("35 none of none", x.check(0), 0);
        x.seller(0, 0, 0);
        x.seller(1, 50, 0);
        due("35 the first is missing", x.check(0), 1);
        x.tell(-1);
        due("35 the second is missing", x.check(0), 2);
        x.tell(-1);
        x.tell(-1);
        due("35 nothing", x.check(0), 0);
        x.tell(500);
        x.tell(850);
        due("35 ahead by 2", x.check(2), 0);
        x.tell(500);
        x.tell(850);
        due("35 ahead by 1", x.check(1), 2);
        x.tell(500);
        x.tell(900);
        x.tell(1);
        due("35 one too many", x.check(1), 3);
        x.tell(499);
        x.tell(900);
        due("35 the first isn't so", x.check(1), 1);
        x.tell(5);
        due("35 n 61", x.check(61), BEYOND);
        due("35 none wait", x.count(6), 0);
        x.tell(5);
        due("35 n -1", x.check(-1), BEYOND);
        due("35 none wait", x.count(6), 0);
        due("34 any number", x.tell(MIN), 1);
        due("35 nothing went by", x.count(0), 0);
        due("35 told", x.told(1), 2);
    }

    private static void counts() {
        FallingSlates x = new FallingSlates();
        x.seller(0, 0, 0);
        x.seller(3, 0, 0);
        x.sort(3, 0, 1);
        x.sort(4, 0, 1);
        x.sort(5, 0, 0);
        x.days(2);
        x.now(0, 1);
        x.feed(0, 5);
        for (int i = 0; i < 6; i++) x.tell(i);
        x.voice(1, 0, 0);
        x.seed(LOW - 5);
        int[] want = {2, 2, 3, 1, 14, 5, 6, 3, LOW - 5};
        for (int what = 0; what < want.length; what++) due("36 count(" + what + ")", x.count(what), want[what]);
        due("36 z is no error", x.told(5), 0);
        due("36 9", x.count(9), BEYOND);
        due("36 -1", x.count(-1), BEYOND);
        due("36 told", x.told(1), 2);
    }

    private static void told() {
        FallingSlates x = new FallingSlates();
        due("37 k 0", x.told(0), BEYOND);
        due("37 k 6", x.told(6), BEYOND);
        due("37 k MIN", x.told(MIN), BEYOND);
        due("37 counted, too", x.told(1), 3);
        x.restore();
        x.restore();
        x.sheet(0, 8, -1);
        for (int i = 0; i < 10; i++) x.seller(1, 1, 1);
        x.as(0, 2);
        due("37 BEYOND", x.told(1), 3);
        due("37 NONE", x.told(2), 2);
        due("37 STATE", x.told(3), 1);
        due("37 FULL", x.told(4), 4);
        due("37 KIND", x.told(5), 1);
        due("37 asking changes nothing", x.told(1), 3);
    }
}
