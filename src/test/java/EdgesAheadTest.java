/** The sentences of the Terms on what is ahead that name an edge, each with a test of its own. */
public final class EdgesAheadTest extends Checks {
    private static final int[] CUTS = {0, 10, 20, 50, 100};

    public static void main(String[] args) {
        noneToSixtyDays();
        beyondTheLastDay();
        seasonStays();
        asIfAlone();
        allPurses();
        whoWaits();
        whoseCostIsNoMore();
        eachOnce();
        theFirstWithTheFirst();
        pricesToBeginWith();
        ofSeveralPricesTheLeast();
        beginningNow();
        right();
        tenth();
        gains();
        gainsWithoutAnyLaw();
        ofSeveralGainsTheLeast();
        cutsOfTwo();
        cutsOfThree();
        cutsAtEachBeginning();
        zeroAtLeast();
        nothingStaysNothing();
        ofSeveralRowsTheFirst();
        end();
    }

    /** One seller of a kind, with COST 0, and one who comes each day. */
    private static FallingSlates shop(int kind, int m, int stock, int slate, int worth) {
        FallingSlates x = new FallingSlates();
        x.seller(kind, m, 0);
        stand(x, 0, stock, slate);
        x.sort(1, worth, 0);
        return x;
    }

    private static void noneToSixtyDays() {
        says("AHEAD by n (0 to 60) DAYS:");
        FallingSlates x = shop(1, 10, 99, 900, 999);
        due("then by 0", x.then(0, 0, 6), 900);
        due("then by 1", x.then(1, 0, 6), 890);
        due("then by 60", x.then(60, 0, 6), 300);
        due("60 bought", x.then(60, 0, 4), 39);
        int[] outside = {-1, 61, MIN, MAX};
        for (int n : outside) {
            due("then", x.then(n, 0, 6), BEYOND);
            due("waits", x.waits(n, 0), BEYOND);
            due("earned", x.earned(n), BEYOND);
            due("lost", x.lost(n), BEYOND);
            due("right", x.right(0, n), BEYOND);
            due("tenth", x.tenth(n, 0), BEYOND);
            due("gains", x.gains(n), BEYOND);
            due("check", x.check(n), BEYOND);
        }
        int sum = 0;
        for (int day = 1; day <= 60; day++) sum += 900 - 10 * day;
        due("earned by 0", x.earned(0), 0);
        due("earned by 60", x.earned(60), sum);
        x.sort(1, 0, 1);
        due("waits by 0", x.waits(0, 1), 0);
        due("waits by 60", x.waits(60, 1), 60);
        due("lost by 0", x.lost(0), 0);
        due("lost by 60", x.lost(60), 39);
        due("right by 0", x.right(0, 0), 0);
        due("tenth by 0", x.tenth(0, 999), 0);
        due("gains by 0", x.gains(0), 0);
        due("gains by 60", x.gains(60), 0);
        x.tell(300);
        due("check by 60", x.check(60), 0);
        x.tell(900);
        due("check by 0", x.check(0), 0);
    }

    private static void beyondTheLastDay() {
        says("as if so many went by (beyond DAY 399, too),");
        FallingSlates x = shop(1, 10, 0, 900, 999);
        goTo(x, 399);
        stand(x, 0, 99, 900);
        x.sort(1, 0, 1);
        read(x, 0, "t>399");
        due("no day goes by", x.days(1), STATE);
        due("day 399", x.then(1, 0, 6), 900);
        due("day 400", x.then(2, 0, 6), 890);
        due("day 458", x.then(60, 0, 6), 310);
        due("waits", x.waits(60, 1), 60);
        due("earned", x.earned(2), 900 + 890);
        due("lost", x.lost(2), 2);
        due("right: 900, 890 and 900, 890", x.right(0, 2), 0);
        due("tenth", x.tenth(60, 999), 0);
        due("gains", x.gains(60), 0);
        due("begin: 990 and 980", x.begin(0, 2), 990);
        due("down", x.down(0, 1, 2, -1), 900 + 890);
        x.tell(310);
        due("check", x.check(60), 0);
        due("first", x.first(0), 0);
        due("TODAY", x.count(0), 399);
    }

    private static void seasonStays() {
        says("SEASON staying.");
        for (int season = 0; season < 3; season++) {
            FallingSlates x = shop(0, 0, 99, 500, 500);
            for (int s = 0; s < 3; s++) x.now(1 + s, s == season ? 10 : 9);
            x.now(0, season);
            due("all buy", x.then(60, 0, 4), 39);
            due("SEASON", x.count(3), season);
            x.now(0, (season + 1) % 3);
            due("none buys", x.then(60, 0, 4), 99);
            due("nothing is drawn", x.count(8), 1);
        }
    }

    private static void asIfAlone() {
        says("as if so many went by (beyond DAY 399, too),");
        FallingSlates x = shop(1, 10, 9, 900, 999);
        x.sort(2, 0, 1);
        for (int round = 0; round < 2; round++) {
            due("then", x.then(3, 0, 6), 870);
            due("then", x.then(3, 0, 4), 6);
            due("waits", x.waits(3, 1), 6);
            x.lost(9);
            x.begin(0, 9);
            x.right(0, 9);
            x.tenth(9, 900);
            x.gains(9);
            x.down(0, 3, 3, 0);
            x.check(9);
        }
        due("TODAY", x.count(0), 0);
        due("SLATE", x.ofSeller(0, 6), 900);
        due("STOCK", x.ofSeller(0, 4), 9);
        due("PURSE", x.ofSeller(0, 5), 0);
        due("WAITING", x.count(4), 0);
        due("UP", x.now(4, 0), 0);
        due("days, as told ahead", x.days(3), 3);
        due("SLATE", x.ofSeller(0, 6), 870);
        due("STOCK", x.ofSeller(0, 4), 6);
        due("WAITING", x.ofSort(1, 3), 6);
    }

    private static void allPurses() {
        says("EARNED: what is in all PURSES together.");
        FallingSlates x = new FallingSlates();
        due("none", x.earned(0), 0);
        for (int i = 0; i < 6; i++) {
            x.seller(0, 0, 0);
            x.set(i, 1, 99999999);
            due("so many at most", x.earned(0), 99999999 * (i + 1));
        }
        for (int i = 0; i < 6; i++) x.set(i, 1, -99999999);
        due("so few at least, no ERROR", x.earned(60), -599999994);
        for (int k = 1; k <= 5; k++) due("told", x.told(k), 0);
        x.set(0, 1, 7);
        x.set(5, 1, -3);
        for (int i = 1; i < 5; i++) x.set(i, 1, 0);
        due("the first and the last", x.earned(0), 4);
    }

    /** Sorts who wait already: so many of each, whom it is worth so much. */
    private static FallingSlates waiting(int... manyWorth) {
        FallingSlates x = new FallingSlates();
        for (int i = 0; i + 1 < manyWorth.length; i += 2) x.sort(manyWorth[i], manyWorth[i + 1], 1);
        x.days(1);
        return x;
    }

    private static void addShop(FallingSlates x, int cost, int stock) {
        int i = x.seller(0, 0, 10 * cost);
        stand(x, i, stock, 999);
    }

    private static void whoWaits() {
        says("LOST: of SORTS by numbers who wait, against SELLERS by numbers with STOCK");
        FallingSlates x = waiting(5, 500);
        due("no SELLERS", x.lost(0), 0);
        addShop(x, 100, 0);
        due("no STOCK", x.lost(0), 0);
        x.set(0, 0, 1);
        due("one thing", x.lost(0), 1);
        x.set(0, 0, 4);
        due("four things", x.lost(0), 4);
        x.set(0, 0, 5);
        due("five", x.lost(0), 5);
        x.set(0, 0, 6);
        due("six things for five", x.lost(0), 5);
        x = new FallingSlates();
        x.sort(5, 500, 0);
        x.sort(0, 500, 1);
        addShop(x, 100, 9);
        due("none wait who don't stay", x.lost(3), 0);
        x = new FallingSlates();
        due("nobody, nothing", x.lost(0), 0);
        x = waiting(5, 500);
        x.seller(0, 0, 1000);
        x.set(0, 0, 5);
        due("nothing on the SLATE", x.lost(0), 5);
    }

    private static void whoseCostIsNoMore() {
        says("whose COST is no more than FEELS:");
        FallingSlates x = waiting(5, 500);
        addShop(x, 500, 3);
        due("as much", x.lost(0), 3);
        x.now(1, 9);
        due("450 is less", x.lost(0), 0);
        x.now(1, 11);
        due("550 is more", x.lost(0), 3);
        x = waiting(5, 500);
        addShop(x, 501, 3);
        due("one more", x.lost(0), 0);
        addShop(x, 499, 2);
        due("one less", x.lost(0), 2);
        x.now(2, 20);
        x.now(0, 1);
        due("FEELS of the SEASON", x.lost(0), 5);
        x = waiting(5, 0);
        addShop(x, 0, 3);
        due("0 and 0", x.lost(0), 3);
    }

    private static void eachOnce() {
        says("pairs of one who waits and one thing that both would have had, each once,");
        FallingSlates x = waiting(5, 500, 5, 500);
        addShop(x, 100, 7);
        due("each thing once", x.lost(0), 7);
        x = waiting(5, 500);
        addShop(x, 100, 4);
        addShop(x, 100, 4);
        due("each who waits once", x.lost(0), 5);
        due("again alike", x.lost(0), 5);
        due("STOCK stays", x.ofSeller(0, 4), 4);
        due("WAITING stays", x.ofSort(0, 3), 5);
    }

    private static void theFirstWithTheFirst() {
        says("as many as there are so (the first SORT with the first SELLER, and so on).");
        FallingSlates x = waiting(5, 900, 5, 400);
        addShop(x, 300, 5);
        addShop(x, 800, 5);
        due("the first takes what the second would have", x.lost(0), 5);
        x.set(0, 0, 6);
        due("one is left for the second", x.lost(0), 6);
        x.set(0, 0, 3);
        due("the first goes on to the second seller", x.lost(0), 5);
        x = waiting(5, 400, 5, 900);
        addShop(x, 300, 5);
        addShop(x, 800, 5);
        due("the other way round both have theirs", x.lost(0), 10);
        x = waiting(5, 900, 5, 400);
        addShop(x, 800, 5);
        addShop(x, 300, 5);
        due("the sellers the other way round, too", x.lost(0), 10);
        x = waiting(9, 500, 9, 500, 9, 500, 9, 500, 9, 500, 9, 500, 9, 500, 9, 500);
        for (int i = 0; i < 6; i++) addShop(x, 500, 99);
        due("eight sorts, six sellers", x.lost(0), 72);
        for (int i = 0; i < 6; i++) x.set(i, 0, 11);
        due("66 things for 72", x.lost(0), 66);
    }

    private static void pricesToBeginWith() {
        says("BEGIN of a SELLER by n: the price (0, 10, 20, .. 990) that, being on its SLATE now, "
            + "makes its PURSE most AHEAD by n;");
        for (int price = 0; price <= 990; price += 10) {
            FallingSlates x = shop(0, 0, 9, -1, price);
            due("begin at " + price, x.begin(0, 1), price);
        }
        due("no 1000, no 999", shop(0, 0, 9, -1, 999).begin(0, 1), 990);
        due("9 alone is too dear at 10", shop(0, 0, 9, -1, 9).begin(0, 1), 0);
        due("19", shop(0, 0, 9, -1, 19).begin(0, 1), 10);
        due("989", shop(0, 0, 9, -1, 989).begin(0, 1), 980);
        FallingSlates x = shop(2, 20, 9, -1, 455);
        due("it steps first: 470 is 450 then", x.begin(0, 1), 470);
        due("by two: 450 and 430", x.begin(0, 2), 470);
        x = shop(2, 95, 9, -1, 455);
        due("by one: 455", x.begin(0, 1), 550);
        due("by nine: 455 and on", x.begin(0, 9), 550);
        due("n 0", x.begin(0, 0), BEYOND);
        due("n 10", x.begin(0, 10), BEYOND);
    }

    private static void ofSeveralPricesTheLeast() {
        says("of several the least.");
        FallingSlates x = shop(0, 0, 0, 700, 999);
        due("nothing to sell: all alike", x.begin(0, 9), 0);
        x.set(0, 0, 9);
        x.set(0, 1, 99999999);
        due("nothing more goes into the PURSE", x.begin(0, 9), 0);
        x.set(0, 1, 99999999 - 455);
        due("460 is enough for one day", x.begin(0, 1), 460);
        due("230 for two", x.begin(0, 2), 230);
        x.set(0, 1, -99999999);
        due("far below 0", x.begin(0, 1), 990);
        x = new FallingSlates();
        x.seller(0, 0, 9999);
        x.set(0, 1, -99999999);
        due("as low as it goes", x.begin(0, 1), 0);
        x = shop(6, 0, 9, -1, 999);
        x.seller(0, 0, 0);
        stand(x, 1, 9, 100);
        due("none buys of the dear one; of like ones the least number sells", x.begin(0, 1), 100);
        x = shop(6, 50, 9, -1, 940);
        due("0 begins anew at 900, as do 10 to 40", x.begin(0, 1), 990);
        x.now(1, 9);
        due("846 by FEELS", x.begin(0, 1), 890);
    }

    private static void beginningNow() {
        says("BEGIN of a SELLER by n: the price (0, 10, 20, .. 990) that, being on its SLATE now, "
            + "makes its PURSE most AHEAD by n;");
        FallingSlates x = shop(5, 0, 9, 300, 999);
        x.seller(0, 0, 0);
        stand(x, 1, 9, 640);
        due("below the other, at a like price ahead of it", x.begin(0, 1), 640);
        due("of the other: one less", x.begin(1, 1), 290);
        due("what is on it now is nothing to it", x.ofSeller(0, 6), 300);
        x.set(0, 2, 100);
        due("what is on it now is nothing to it", x.begin(0, 1), 640);
        x.set(0, 0, 1);
        due("once it has none left the other sells", x.begin(1, 2), 990);
    }

    private static void right() {
        says("RIGHT of a SELLER by n: its PURSE AHEAD by n with nothing on its SLATE, less that as it is.");
        FallingSlates x = shop(0, 0, 99, 100, 600);
        due("by 0", x.right(0, 0), 0);
        due("by 1", x.right(0, 1), 400);
        due("by 60", x.right(0, 60), 24000);
        x.set(0, 2, -1);
        due("nothing on it as it is", x.right(0, 9), 0);
        x.set(0, 2, 0);
        due("0 on it", x.right(0, 1), 500);
        x.set(0, 2, 600);
        due("a loss", x.right(0, 2), -200);
        x.set(0, 1, 99999999);
        due("nothing more goes into the PURSE", x.right(0, 2), 0);
        x = shop(1, 0, 99, 100, 600);
        due("900 is too dear", x.right(0, 2), -200);
        x = shop(0, 0, 1, 100, 999);
        x.seller(0, 0, 0);
        stand(x, 1, 1, 200);
        due("its own SLATE alone", x.right(0, 1), -100);
        due("its own SLATE alone", x.right(1, 1), 0);
        due("its own PURSE alone", x.right(1, 2), 300);
        x.set(0, 1, -5);
        due("what it had is nothing to it", x.right(0, 1), -100);
        due("SLATES stay", x.ofSeller(0, 6) + x.ofSeller(1, 6), 300);
    }

    private static void tenth() {
        says("TENTH by n with u: EARNED AHEAD by n with UP u, less that as it is.");
        FallingSlates x = shop(5, 0, 99, 300, 999);
        x.seller(5, 0, 4000);
        x.seller(5, 0, 7000);
        stand(x, 1, 99, 300);
        stand(x, 2, 99, 1);
        due("none upward: seller 2 at 1", x.earned(1), 1);
        due("698 is not enough", x.tenth(1, 698), 0);
        due("699 is: seller 0 at 300", x.tenth(1, 699), 299);
        due("by two", x.tenth(2, 699), 598);
        due("by 0", x.tenth(0, 699), 0);
        due("u 999", x.tenth(1, 999), 299);
        due("u 0, as it is", x.tenth(1, 0), 0);
        due("u -1", x.tenth(1, -1), BEYOND);
        due("u 1000", x.tenth(1, 1000), BEYOND);
        due("UP stays", x.now(4, 699), 0);
        due("less upward than there is", x.tenth(1, 698), -299);
        due("as much as there is", x.tenth(1, 699), 0);
        due("UP stays", x.now(4, 0), 699);
        read(x, 0, "u=5");
        due("by the law's own u", x.tenth(1, 5), 299);
        due("by the law's own u", x.tenth(1, 6), 0);
        due("no SELLERS", new FallingSlates().tenth(60, 999), 0);
    }

    private static void gains() {
        says("GAINS by n: the SELLER whose PURSE AHEAD by n without the law (each MAY ask any price) "
            + "less that with it is most;");
        FallingSlates x = new FallingSlates();
        x.sort(9, 350, 0);
        int[] stocks = {4, 2, 3};
        for (int i = 0; i < 3; i++) {
            x.seller(5, 0, 4000);
            stand(x, i, stocks[i], 300);
        }
        due("all lose, the second the least", x.gains(1), 1);
        x.set(1, 0, 5);
        due("all lose, the third the least", x.gains(1), 2);
        x.now(1, 20);
        due("all gain, the second the most", x.gains(1), 1);
        x.set(0, 0, 9);
        due("all gain, the first the most", x.gains(1), 0);
        x.set(2, 1, 5000);
        due("what it had is nothing to it", x.gains(1), 0);
        x = new FallingSlates();
        x.sort(1, 500, 0);
        for (int i = 0; i < 6; i++) x.seller(i < 5 ? 0 : 5, 0, 4000);
        stand(x, 0, 0, 100);
        stand(x, 5, 9, 300);
        due("the last", x.gains(1), 5);
    }

    private static void gainsWithoutAnyLaw() {
        says("without the law (each MAY ask any price)");
        FallingSlates x = shop(0, 0, 9, 300, 480);
        x.seller(2, 20, 0);
        stand(x, 1, 9, 300);
        read(x, 0, "0");
        due("a law that lets nobody go down", x.gains(1), 1);
        due("with it 300 stays", x.then(1, 1, 6), 300);
        x.set(0, 2, 285);
        due("the first loses what the second gains", x.gains(1), 1);
        read(x, 0, "1");
        due("a law that lets all", x.gains(1), 0);
        due("the law is as it was", x.law(0, 0, 0, 0, 0), 1);
        x = shop(5, 0, 9, 300, 999);
        x.seller(0, 0, 0);
        x.now(4, 999);
        due("so much upward that the law is nothing", x.gains(9), 0);
    }

    private static void ofSeveralGainsTheLeast() {
        says("less that with it is most; of several the least.");
        FallingSlates x = new FallingSlates();
        due("no SELLERS", x.gains(0), NONE);
        for (int i = 0; i < 6; i++) {
            x.seller(0, 0, 0);
            due("all alike", x.gains(60), 0);
        }
        x = new FallingSlates();
        x.sort(9, 500, 0);
        x.seller(0, 0, 0);
        for (int i = 1; i < 4; i++) {
            x.seller(5, 0, 4000);
            stand(x, i, 2, 300);
        }
        due("three alike behind one", x.gains(1), 1);
        due("by 0 all alike", x.gains(0), 0);
    }

    private static void cutsOfTwo() {
        says("DOWN of a SELLER by n, k (2, 3): the row of k cuts, each 0, 10, 20, 50 or 100,");
        for (int one : CUTS) {
            for (int two : CUTS) {
                FallingSlates x = shop(0, 0, 9, 500, 0);
                read(x, 1, "t=0&p=" + (500 - one) + "|t=1&p=" + (500 - one - two));
                String row = one + ", " + two;
                due(row + ": 0", x.down(0, 1, 2, 0), one);
                due(row + ": 1", x.down(0, 1, 2, 1), two);
                due(row + ": PURSE", x.down(0, 1, 2, -1), 1000 - 2 * one - two);
            }
        }
        FallingSlates x = shop(0, 0, 9, 500, 0);
        due("k 1", x.down(0, 1, 1, 0), BEYOND);
        due("k 4", x.down(0, 1, 4, 0), BEYOND);
    }

    private static void cutsOfThree() {
        says("DOWN of a SELLER by n, k (2, 3): the row of k cuts, each 0, 10, 20, 50 or 100,");
        for (int row = 0; row < 125; row++) {
            int[] cuts = {CUTS[row / 25], CUTS[row / 5 % 5], CUTS[row % 5]};
            int first = 500 - cuts[0];
            int second = first - cuts[1];
            int third = second - cuts[2];
            FallingSlates x = shop(0, 0, 9, 500, 0);
            read(x, 1, "t=0&p=" + first + "|t=1&p=" + second + "|t=2&p=" + third);
            for (int i = 0; i < 3; i++) due("row " + row + ": " + i, x.down(0, 1, 3, i), cuts[i]);
            due("row " + row + ": PURSE", x.down(0, 1, 3, -1), first + second + third);
        }
    }

    private static void cutsAtEachBeginning() {
        says("one at the beginning of each of the next k times n DAYS");
        FallingSlates x = shop(0, 0, 99, 500, 0);
        x.days(5);
        x.set(0, 2, 500);
        read(x, 1, "t<14&p=450|t>13&t<23&p=440|t>22&p=420");
        due("by nine: 0", x.down(0, 9, 3, 0), 50);
        due("by nine: 1", x.down(0, 9, 3, 1), 10);
        due("by nine: 2", x.down(0, 9, 3, 2), 20);
        due("27 days", x.down(0, 9, 3, -1), 9 * (450 + 440 + 420));
        read(x, 1, "t<8&p=400|t>7&p=380");
        due("by three: 0", x.down(0, 3, 2, 0), 100);
        due("by three: 1", x.down(0, 3, 2, 1), 20);
        due("six days", x.down(0, 3, 2, -1), 3 * (400 + 380));
        says("n DAYS go by behind each),");
        due("two days", x.down(0, 1, 2, -1), 2 * 400);
        read(x, 1, "t=5&p=500|t=7&p=450");
        due("a day more behind the last", x.down(0, 2, 2, -1), 950);
        due("two days without it", x.down(0, 1, 2, -1), 500);
        due("n 0", x.down(0, 0, 2, -1), BEYOND);
        due("n 10", x.down(0, 10, 2, -1), BEYOND);
    }

    private static void zeroAtLeast() {
        says("(what is on its SLATE is less by the cut, 0 at least;");
        FallingSlates x = shop(1, 0, 9, 9, 999);
        due("9 and 9, since 0 is not nothing", x.down(0, 1, 2, -1), 18);
        read(x, 1, "p=0");
        due("0 is a price at which one buys", x.down(0, 1, 2, -1), 0);
        x = shop(6, 0, 9, 10, 999);
        due("10 less 10 is 0, not below COST 0", x.down(0, 1, 2, -1), 20);
        x = new FallingSlates();
        x.seller(6, 0, 10);
        stand(x, 0, 9, 20);
        x.sort(1, 999, 0);
        due("20 less 20 is below COST 1: it begins anew", x.down(0, 1, 2, -1), 1800);
        due("by 20 at first", x.down(0, 1, 2, 0), 20);
        due("and then none", x.down(0, 1, 2, 1), 0);
        x = shop(0, 0, 9, 100, 999);
        x.seller(0, 0, 0);
        stand(x, 1, 9, 0);
        x.set(1, 0, 1);
        due("like the other's 0, its number is less: no gain by it", x.down(0, 1, 2, -1), 100);
    }

    private static void nothingStaysNothing() {
        says("nothing stays nothing;");
        FallingSlates x = shop(0, 0, 9, -1, 0);
        read(x, 1, "p<400");
        due("500, then 490, then 390", x.down(0, 1, 3, -1), 390);
        due("the first cut takes nothing", x.down(0, 1, 3, 0), 0);
        due("the second, 10, 100 being ahead of 100, 10", x.down(0, 1, 3, 1), 10);
        due("the third", x.down(0, 1, 3, 2), 100);
        read(x, 1, "t=0&p=500");
        due("500 is asked whatever the cut", x.down(0, 1, 2, -1), 500);
        x = shop(1, 0, 9, -1, 0);
        read(x, 1, "t=0&p=900");
        due("900 is asked whatever the cut", x.down(0, 1, 2, -1), 900);
        due("SLATE stays", x.ofSeller(0, 6), -1);
    }

    private static void ofSeveralRowsTheFirst() {
        says("by which its PURSE is most at the end; of several the first as a row.");
        FallingSlates x = shop(0, 0, 0, 500, 999);
        for (int i = 0; i < 3; i++) due("all alike: 0", x.down(0, 1, 3, i), 0);
        due("PURSE", x.down(0, 1, 3, -1), 0);
        x = shop(0, 0, 1, 500, 0);
        read(x, 1, "p=480");
        due("one thing, sold whenever", x.down(0, 1, 3, -1), 480);
        int[] last = {0, 0, 20};
        for (int i = 0; i < 3; i++) due("0, 0, 20 ahead of 0, 10, 10 and 20, 0, 0", x.down(0, 1, 3, i), last[i]);
        x.set(0, 1, 99999999);
        for (int i = 0; i < 3; i++) due("nothing more goes into it: 0", x.down(0, 1, 3, i), 0);
        due("PURSE held", x.down(0, 1, 3, -1), 99999999);
        x.set(0, 1, -99999999);
        due("from far below 0", x.down(0, 1, 3, -1), -99999999 + 480);
        x = new FallingSlates();
        x.seller(0, 0, 9999);
        x.set(0, 1, -99999999);
        due("as low as it goes", x.down(0, 9, 3, -1), -99999999);
        for (int i = 0; i < 3; i++) due("as low as it goes: 0", x.down(0, 9, 3, i), 0);
        x = shop(0, 0, 9, 500, 400);
        due("100 at first", x.down(0, 1, 3, 0), 100);
        x.set(0, 0, 0);
        x.set(0, 1, -99999999);
        due("as low as it goes, nothing of the row ahead", x.down(0, 1, 3, 0), 0);
        x = shop(0, 0, 9, 500, 480);
        x.seller(0, 0, 0);
        stand(x, 1, 99, 450);
        due("its own PURSE, of the cheaper one's price", x.down(0, 1, 2, -1), 900);
        due("to 450 at once", x.down(0, 1, 2, 0), 50);
        due("the other's: no cut", x.down(1, 1, 2, 0), 0);
    }
}
