/** The sentences of the Terms on a day that goes by, a year and its draws that name an edge, each with its own test. */
public final class EdgesOfDaysTest extends Checks {
    public static void main(String[] args) {
        inThisOrder();
        stockIsMoreByMakes();
        purseIsLessByCost();
        asksWithTheStockOfTheDay();
        slateIsWhatIsAsked();
        sortsByNumbers();
        waitingAndCome();
        onceToEachWithAStock();
        theCheapestFirst();
        ofLikeOnesTheLeast();
        buysIfNotZero();
        asManyAsThere();
        purseIsMoreByThePrice();
        theNextThen();
        waitingIsWhoIsLeft();
        ninetyNineWait();
        noneIfStaysIsZero();
        todayIsOneMore();
        seasonOfAYear();
        draws();
        end();
    }

    private static FallingSlates ofSellers(int... kindMCm) {
        FallingSlates x = new FallingSlates();
        for (int i = 0; i + 2 < kindMCm.length; i += 3) x.seller(kindMCm[i], kindMCm[i + 1], kindMCm[i + 2]);
        return x;
    }

    private static void inThisOrder() {
        says("A DAY goes by:");
        FallingSlates x = ofSellers(2, 10, 101, 0, 0, 0);
        stand(x, 0, 0, 300);
        stand(x, 1, 9, 295);
        x.sort(1, 290, 0);
        read(x, 1, "!(p>f)&t=0");
        x.days(1);
        due("it makes one, asks 290, sells it, all on day 0", x.ofSeller(0, 5), -10 + 290);
        due("the other isn't the cheapest by then", x.ofSeller(1, 4), 9);
        x.days(1);
        due("on day 1 nobody buys", x.ofSeller(0, 4), 1);
    }

    private static void stockIsMoreByMakes() {
        says("(1) SELLERS by numbers: STOCK is more by MAKES (99 at most),");
        FallingSlates x = ofSellers(0, 0, 0, 0, 0, 1, 0, 0, 9, 0, 0, 9, 0, 0, 9);
        int[] stocks = {5, 5, 5, 90, 91};
        int[] later = {5, 6, 14, 99, 99};
        for (int i = 0; i < 5; i++) x.set(i, 0, stocks[i]);
        x.days(1);
        for (int i = 0; i < 5; i++) due("STOCK " + stocks[i], x.ofSeller(i, 4), later[i]);
        x = ofSellers(0, 0, 1);
        x.sort(1, 999, 0);
        x.days(1);
        due("what is made is sold on the day", x.ofSeller(0, 5), 500);
    }

    private static void purseIsLessByCost() {
        says("PURSE less by COST times MAKES;");
        FallingSlates x = ofSellers(0, 0, 9999, 0, 0, 9990, 0, 0, 9, 0, 0, 75);
        x.set(3, 0, 98);
        x.days(1);
        due("999 times 9", x.ofSeller(0, 5), -8991);
        due("999 times 0", x.ofSeller(1, 5), 0);
        due("0 times 9", x.ofSeller(2, 5), 0);
        due("for all that is made, though 99 are the most", x.ofSeller(3, 5), -35);
        due("99", x.ofSeller(3, 4), 99);
        x.days(1);
        due("for all that is made, though there is no room", x.ofSeller(3, 5), -70);
    }

    private static void asksWithTheStockOfTheDay() {
        says("then each ASKS (its SLATE is that then; NEWLY: as told).");
        FallingSlates x = ofSellers(3, 30, 1, 3, 30, 1, 4, 40, 1, 4, 40, 1);
        int[] stocks = {18, 19, 58, 59};
        int[] asked = {270, 240, 300, 260};
        for (int i = 0; i < 4; i++) stand(x, i, stocks[i], 300);
        x.days(1);
        for (int i = 0; i < 4; i++) due("STOCK " + stocks[i] + " and one more", x.ofSeller(i, 6), asked[i]);
        x = ofSellers(6, 50, 8510, 6, 50, 8500);
        x.days(1);
        due("begins at 900", x.ofSeller(0, 6), 900);
        due("begins at 900", x.ofSeller(1, 6), 900);
        x.days(1);
        due("850 is below 851: 900 anew", x.ofSeller(0, 6), 900);
        due("850 isn't below 850", x.ofSeller(1, 6), 850);
        x.days(1);
        due("800 is: 900 anew", x.ofSeller(1, 6), 900);
    }

    private static void slateIsWhatIsAsked() {
        says("then each ASKS (its SLATE is that then; NEWLY: as told).");
        FallingSlates x = ofSellers(0, 0, 0, 1, 10, 0, 2, 10, 0, 5, 0, 7000);
        x.set(3, 2, 600);
        x.days(1);
        int[] asked = {500, 900, 490, 600};
        for (int i = 0; i < 4; i++) due("without a STOCK, too", x.ofSeller(i, 6), asked[i]);
        x.days(3);
        int[] later = {500, 870, 460, 600};
        for (int i = 0; i < 4; i++) due("three days later", x.ofSeller(i, 6), later[i]);
    }

    private static void sortsByNumbers() {
        says("(2) SORTS by numbers:");
        FallingSlates x = ofSellers(0, 0, 0);
        stand(x, 0, 5, 100);
        x.sort(3, 100, 1);
        x.sort(3, 999, 1);
        x.sort(3, 100, 1);
        x.days(1);
        due("the first has all it wants", x.ofSort(0, 3), 0);
        due("the second has what is left", x.ofSort(1, 3), 1);
        due("the third has none", x.ofSort(2, 3), 3);
    }

    private static void waitingAndCome() {
        says("there are WAITING and COME of one;");
        FallingSlates x = new FallingSlates();
        x.sort(9, 999, 1);
        x.days(12);
        due("99 wait", x.ofSort(0, 3), 99);
        for (int i = 0; i < 2; i++) {
            x.seller(0, 0, 0);
            stand(x, i, 99, 100);
        }
        x.days(1);
        due("108 were there: 99 here", x.ofSeller(0, 4), 0);
        due("108 were there: 9 there", x.ofSeller(1, 4), 90);
        due("none is left", x.ofSort(0, 3), 0);
        x.days(1);
        due("9 came", x.ofSeller(1, 4), 81);
        x = ofSellers(0, 0, 0);
        stand(x, 0, 9, 100);
        x.sort(0, 999, 1);
        x.days(1);
        due("none were there", x.ofSeller(0, 4), 9);
    }

    private static void onceToEachWithAStock() {
        says("they go once to each SELLER with a STOCK,");
        FallingSlates x = ofSellers(0, 0, 0, 0, 0, 0, 0, 0, 0);
        stand(x, 0, 0, 10);
        stand(x, 1, 1, 20);
        stand(x, 2, 9, 30);
        x.sort(3, 999, 0);
        x.days(1);
        due("no STOCK", x.ofSeller(0, 5), 0);
        due("a STOCK of 1", x.ofSeller(1, 5), 20);
        due("two are left for the next", x.ofSeller(2, 5), 60);
        x = ofSellers(0, 0, 0, 0, 0, 0);
        stand(x, 0, 9, 10);
        stand(x, 1, 9, 20);
        x.sort(1, 999, 0);
        x.days(1);
        due("one buys one", x.ofSeller(0, 4) + x.ofSeller(1, 4), 17);
        x = new FallingSlates();
        x.sort(4, 999, 1);
        x.days(1);
        due("no SELLERS", x.ofSort(0, 3), 4);
    }

    private static void theCheapestFirst() {
        says("by what is on the SLATES the cheapest first,");
        int[][] orders = {{0, 1, 2}, {0, 2, 1}, {1, 0, 2}, {1, 2, 0}, {2, 0, 1}, {2, 1, 0}};
        for (int[] order : orders) {
            FallingSlates x = ofSellers(0, 0, 0, 0, 0, 0, 0, 0, 0);
            for (int i = 0; i < 3; i++) stand(x, order[i], 1, 100 + i);
            x.sort(1, 999, 0);
            for (int i = 0; i < 3; i++) {
                due("not yet", x.ofSeller(order[i], 4), 1);
                x.days(1);
                due("the next cheapest", x.ofSeller(order[i], 5), 100 + i);
            }
        }
        FallingSlates x = ofSellers(1, 99, 0, 0, 0, 0);
        stand(x, 0, 1, 598);
        stand(x, 1, 1, 500);
        x.sort(1, 999, 0);
        x.days(1);
        due("by what is on them once all have asked", x.ofSeller(0, 5), 499);
        x = ofSellers(0, 0, 0, 0, 0, 0);
        stand(x, 0, 1, 1);
        stand(x, 1, 1, 0);
        x.sort(1, 999, 0);
        x.days(1);
        due("0 is the cheapest", x.ofSeller(1, 4), 0);
    }

    private static void ofLikeOnesTheLeast() {
        says("of like ones the least number:");
        FallingSlates x = ofSellers(0, 0, 0, 0, 0, 0, 0, 0, 0, 0, 0, 0, 0, 0, 0, 0, 0, 0);
        int[] prices = {300, 200, 300, 200, 100, 200};
        for (int i = 0; i < 6; i++) stand(x, i, 1, prices[i]);
        x.sort(1, 999, 0);
        int[] order = {4, 1, 3, 5, 0, 2};
        for (int i : order) {
            due("not yet: " + i, x.ofSeller(i, 4), 1);
            x.days(1);
            due("now: " + i, x.ofSeller(i, 4), 0);
        }
    }

    private static void buysIfNotZero() {
        says("if BUYS isn't 0 at that price,");
        String[] texts = {"p-100", "100-p", "p/200", "2", "0", "p=200"};
        int[] atHundred = {0, 0, 0, 1, 0, 0};
        int[] atTwoHundred = {1, 1, 1, 0, 0, 1};
        for (int t = 0; t < texts.length; t++) {
            FallingSlates x = ofSellers(0, 0, 0, 0, 0, 0);
            stand(x, 0, 5, 100);
            stand(x, 1, 5, 200);
            x.sort(1, 0, 1);
            read(x, 1, texts[t]);
            x.days(1);
            due(texts[t] + " at 100", 5 - x.ofSeller(0, 4), atHundred[t]);
            due(texts[t] + " at 200", 5 - x.ofSeller(1, 4), atTwoHundred[t]);
            due(texts[t] + ": who waits", x.ofSort(0, 3), 1 - atHundred[t] - atTwoHundred[t]);
        }
    }

    private static void asManyAsThere() {
        says("as many as are still there and as STOCK has buy one each");
        int[][] cases = {{3, 2, 0, 1}, {3, 3, 0, 0}, {3, 4, 1, 0}, {0, 4, 4, 0}, {9, 0, 0, 9}, {1, 99, 98, 0}};
        for (int[] c : cases) {
            FallingSlates x = ofSellers(0, 0, 0);
            stand(x, 0, c[1], 100);
            x.sort(c[0], 100, 1);
            x.days(1);
            due(c[0] + " for " + c[1] + ": STOCK", x.ofSeller(0, 4), c[2]);
            due(c[0] + " for " + c[1] + ": WAITING", x.ofSort(0, 3), c[3]);
        }
    }

    private static void purseIsMoreByThePrice() {
        says("(PURSE is more by the price);");
        FallingSlates x = ofSellers(0, 0, 0, 0, 0, 0);
        stand(x, 0, 99, 999);
        stand(x, 1, 3, 0);
        x.sort(9, 999, 0);
        x.days(1);
        due("three at 0", x.ofSeller(1, 5), 0);
        due("they are gone", x.ofSeller(1, 4), 0);
        due("six at 999", x.ofSeller(0, 5), 5994);
        x = new FallingSlates();
        x.sort(9, 999, 1);
        x.days(12);
        x.seller(0, 0, 0);
        stand(x, 0, 99, 999);
        x.days(1);
        due("99 at 999", x.ofSeller(0, 5), 98901);
    }

    private static void theNextThen() {
        says("those who are left go to the next;");
        FallingSlates x = ofSellers(0, 0, 0, 0, 0, 0, 0, 0, 0);
        stand(x, 0, 2, 10);
        stand(x, 1, 3, 20);
        stand(x, 2, 9, 30);
        x.sort(9, 999, 1);
        x.days(1);
        due("two here", x.ofSeller(0, 5), 20);
        due("three there", x.ofSeller(1, 5), 60);
        due("four with the last", x.ofSeller(2, 5), 120);
        due("none is left", x.ofSort(0, 3), 0);
    }

    private static void waitingIsWhoIsLeft() {
        says("WAITING is who is left behind all,");
        FallingSlates x = ofSellers(0, 0, 0);
        x.sort(4, 100, 2);
        stand(x, 0, 1, 100);
        x.days(1);
        due("three", x.ofSort(0, 3), 3);
        x.days(1);
        due("three and four", x.ofSort(0, 3), 7);
        x.set(0, 0, 9);
        x.days(1);
        due("seven and four less nine", x.ofSort(0, 3), 2);
        x.set(0, 0, 6);
        x.days(1);
        due("none", x.ofSort(0, 3), 0);
    }

    private static void ninetyNineWait() {
        says("99 at most, none if STAYS is 0.");
        FallingSlates x = new FallingSlates();
        x.sort(9, 100, 1);
        x.days(11);
        due("just 99", x.ofSort(0, 3), 99);
        x.days(1);
        due("108", x.ofSort(0, 3), 99);
        x.seller(0, 0, 0);
        stand(x, 0, 8, 100);
        x.days(1);
        due("100", x.ofSort(0, 3), 99);
        stand(x, 0, 10, 100);
        x.days(1);
        due("98", x.ofSort(0, 3), 98);
    }

    private static void noneIfStaysIsZero() {
        says("99 at most, none if STAYS is 0.");
        FallingSlates x = ofSellers(0, 0, 0);
        stand(x, 0, 2, 100);
        x.sort(5, 100, 0);
        x.sort(5, 100, 1);
        x.days(1);
        due("three are left, and go", x.ofSort(0, 3), 0);
        due("five are left, and stay", x.ofSort(1, 3), 5);
        due("all who wait", x.count(4), 5);
    }

    private static void todayIsOneMore() {
        says("(3) TODAY is 1 more.");
        FallingSlates x = ofSellers(2, 10, 0);
        x.set(0, 2, 300);
        x.sort(1, 999, 0);
        x.set(0, 0, 9);
        read(x, 0, "t=1");
        read(x, 1, "t=2");
        due("one day", x.days(1), 1);
        due("the law of day 0", x.ofSeller(0, 6), 300);
        due("two days", x.days(1), 2);
        due("the law of day 1", x.ofSeller(0, 6), 290);
        due("none bought yet", x.ofSeller(0, 4), 9);
        due("three days", x.days(1), 3);
        due("one bought on day 2", x.ofSeller(0, 4), 8);
        due("the law of day 2", x.ofSeller(0, 6), 290);
    }

    /** Who buys in one season alone tells which season each day had. */
    private static void seasonOfAYear() {
        says("A YEAR of n DAYS by DRAWS: ahead of each DAY a draw: SEASON is its rest by 3.");
        int[] seeds = {1, 0, -1, 7, MIN, MAX, 123456789};
        for (int seed : seeds) {
            int z = seed;
            int[] days = new int[3];
            for (int i = 0; i < 10; i++) {
                z = z * 1103515245 + 12345;
                days[(z >>> 8) % 3]++;
            }
            for (int season = 0; season < 3; season++) {
                FallingSlates x = ofSellers(0, 0, 0);
                stand(x, 0, 99, 500);
                x.sort(1, 500, 0);
                for (int s = 0; s < 3; s++) x.now(1 + s, s == season ? 10 : 9);
                x.seed(seed);
                due("SEASON then", x.year(10), (z >>> 8) % 3);
                due("days of SEASON " + season, 99 - x.ofSeller(0, 4), days[season]);
                due("SEASON stays", x.count(3), (z >>> 8) % 3);
                due("ten days", x.count(0), 10);
            }
        }
    }

    private static void draws() {
        says("DRAWS: z is told (1 at first); each makes it z * 1103515245 + 12345 (an int), and gives z >>> 8.");
        FallingSlates x = new FallingSlates();
        due("1 at first", x.count(8), 1);
        due("1103527590 >>> 8 is 4310654, its rest 2", x.year(1), 2);
        due("z", x.count(8), 1103527590);
        x.seed(-1);
        due("3191464396 >>> 8 is 12466657, its rest 1", x.year(1), 1);
        due("z goes round", x.count(8), -1103502900);
        x.seed(0);
        due("12345 >>> 8 is 48, its rest 0", x.year(1), 0);
        due("z", x.count(8), 12345);
        x.seed(MIN);
        due("2147495993 >>> 8 is 8388656, its rest 2", x.year(1), 2);
        due("z", x.count(8), MIN + 12345);
        x.days(1);
        due("days draw nothing", x.count(8), MIN + 12345);
    }
}
