/** The sentences of the Terms on errors, days, sellers and sorts that name an edge, each with a test of its own. */
public final class EdgesOfSellersTest extends Checks {
    public static void main(String[] args) {
        errorsByTheirNumbers();
        answersThatOnlyLookLikeErrors();
        quotientsAreCut();
        firstAndLastDay();
        seasons();
        heats();
        sixSellers();
        kindsUnderKinds();
        numberM();
        cost();
        makes();
        stock();
        purse();
        purseHeldAtEachStep();
        slate();
        wouldOfSeller();
        wouldIsHeld();
        wouldOfHigh();
        wouldOfStepper();
        wouldOfHurried();
        wouldOfHolder();
        wouldOfStubborn();
        wouldOfNewly();
        newlyWipesItsSlate();
        asksIfItMay();
        mayByNothing();
        mayByLaw();
        eightSorts();
        come();
        worthOfASort();
        stays();
        waiting();
        feels();
        end();
    }

    private static void errorsByTheirNumbers() {
        says("ERRORS are answers below -1000000000: LOW is -1000000000; "
            + "LOW - 1 BEYOND, LOW - 2 NONE, LOW - 3 STATE, LOW - 4 FULL, LOW - 5 KIND.");
        FallingSlates x = new FallingSlates();
        due("BEYOND", x.count(9), -1000000001);
        due("NONE", x.restore(), -1000000002);
        due("STATE", x.sheet(0, 8, -1), -1000000003);
        for (int i = 0; i < 6; i++) x.seller(0, 0, 0);
        due("FULL", x.seller(0, 0, 0), -1000000004);
        due("KIND", x.as(0, 1), -1000000005);
        for (int k = 1; k <= 5; k++) due("told(" + k + ")", x.told(k), 1);
    }

    private static void answersThatOnlyLookLikeErrors() {
        says("ERRORS are answers below -1000000000: LOW is -1000000000; "
            + "LOW - 1 BEYOND, LOW - 2 NONE, LOW - 3 STATE, LOW - 4 FULL, LOW - 5 KIND.");
        FallingSlates x = new FallingSlates();
        x.seller(0, 0, 0);
        for (int v = LOW - 6; v <= LOW; v++) {
            due("voice(0, 2, " + v + ")", x.voice(0, 2, v), v);
            x.seed(v);
            due("count(8)", x.count(8), v);
            due("seed(0)", x.seed(0), v);
        }
        read(x, 0, "p");
        due("law(0, LOW - 1, ..)", x.law(0, BEYOND, 0, 0, 0), BEYOND);
        for (int k = 1; k <= 5; k++) due("no error: told(" + k + ")", x.told(k), 0);
    }

    private static void quotientsAreCut() {
        says("Quotients are cut.");
        FallingSlates x = new FallingSlates();
        x.sort(0, 5, 0);
        x.sort(0, 999, 0);
        x.now(1, 7);
        due("5 * 7 by 10", x.ofSort(0, 4), 3);
        due("999 * 7 by 10", x.ofSort(1, 4), 699);
        due("7/2", worth("7/2"), 3);
        due("(0-7)/2", worth("(0-7)/2"), -3);
        due("7/(0-2)", worth("7/(0-2)"), -3);
        due("(0-1)/2", worth("(0-1)/2"), 0);
    }

    private static void firstAndLastDay() {
        says("DAYS are 0 to 399; TODAY is one (0 at first).");
        FallingSlates x = new FallingSlates();
        due("at first", x.count(0), 0);
        goTo(x, 398);
        due("the last", x.days(1), 399);
        due("none behind it", x.days(1), STATE);
        due("TODAY", x.count(0), 399);
        x.seller(0, 0, 0);
        x.set(0, 2, 5);
        read(x, 0, "t=399");
        due("the law on day 399", x.may(0, 6), 1);
        x = new FallingSlates();
        x.seller(0, 0, 0);
        x.set(0, 2, 5);
        read(x, 0, "t=0");
        due("the law on day 0", x.may(0, 6), 1);
        x.days(1);
        due("the law on day 1", x.may(0, 6), 0);
    }

    private static void seasons() {
        says("SEASON is 0, 1 or 2 (0 at first);");
        FallingSlates x = new FallingSlates();
        due("at first", x.count(3), 0);
        due("1", x.now(0, 1), 0);
        due("2", x.now(0, 2), 1);
        due("3", x.now(0, 3), BEYOND);
        due("-1", x.now(0, -1), BEYOND);
        due("still 2", x.count(3), 2);
        due("0", x.now(0, 0), 2);
    }

    private static void heats() {
        says("each has a HEAT (0 to 40; 10 at first).");
        FallingSlates x = new FallingSlates();
        x.sort(0, 100, 0);
        for (int season = 0; season <= 2; season++) {
            x.now(0, season);
            due("10 at first", x.ofSort(0, 4), 100);
            due("40", x.now(1 + season, 40), 10);
            due("FEELS by 40", x.ofSort(0, 4), 400);
            due("41", x.now(1 + season, 41), BEYOND);
            due("still 40", x.now(1 + season, 0), 40);
            due("FEELS by 0", x.ofSort(0, 4), 0);
            due("-1", x.now(1 + season, -1), BEYOND);
            due("still 0", x.now(1 + season, season), 0);
        }
        for (int season = 0; season <= 2; season++) {
            x.now(0, season);
            due("each its own", x.ofSort(0, 4), 10 * season);
        }
    }

    private static void sixSellers() {
        says("SELLERS 0, 1, .. (at most 6), of KINDS:");
        FallingSlates x = new FallingSlates();
        due("none yet", x.ofSeller(0, 0), BEYOND);
        for (int i = 0; i < 6; i++) {
            due("the next number", x.seller(0, i, 0), i);
            due("it is there", x.ofSeller(i, 1), i);
            due("none behind it", x.ofSeller(i + 1, 1), BEYOND);
        }
        due("a seventh", x.seller(0, 0, 0), FULL);
        due("six", x.count(1), 6);
        due("none below", x.ofSeller(-1, 0), BEYOND);
    }

    private static void kindsUnderKinds() {
        says("0 SELLER; 1 HIGH, 2 STEPPER, 4 HOLDER under SELLER; 3 HURRIED under STEPPER; 5 STUBBORN under HOLDER; "
            + "6 NEWLY under HIGH;");
        String[] isOf = {"0", "01", "02", "023", "04", "045", "016"};
        for (int kind = 0; kind <= 6; kind++) {
            FallingSlates x = new FallingSlates();
            due("seller(" + kind + ")", x.seller(kind, 50 + kind, 0), 0);
            for (int above = 0; above <= 6; above++) {
                boolean is = isOf[kind].indexOf('0' + above) >= 0;
                due(kind + " as " + above, x.as(0, above), is ? 50 + kind : KIND);
            }
        }
        FallingSlates x = new FallingSlates();
        due("no kind 7", x.seller(7, 0, 0), BEYOND);
        due("no kind -1", x.seller(-1, 0, 0), BEYOND);
    }

    private static void numberM() {
        says("each with a number m (0 to 99),");
        FallingSlates x = new FallingSlates();
        due("-1", x.seller(1, -1, 0), BEYOND);
        due("100", x.seller(1, 100, 0), BEYOND);
        due("0", x.seller(1, 0, 0), 0);
        due("99", x.seller(1, 99, 0), 1);
        due("m 0", x.ofSeller(0, 1), 0);
        due("m 99", x.ofSeller(1, 1), 99);
        x.days(2);
        due("900 less 0", x.ofSeller(0, 6), 900);
        due("900 less 99", x.ofSeller(1, 6), 801);
    }

    private static void cost() {
        says("a COST (0 to 999) of what it makes,");
        FallingSlates x = new FallingSlates();
        due("below 0", x.seller(0, 0, -10), BEYOND);
        due("1000", x.seller(0, 0, 10000), BEYOND);
        due("0", x.seller(0, 0, 1), 0);
        due("999", x.seller(0, 0, 9991), 1);
        due("COST 0", x.ofSeller(0, 2), 0);
        due("COST 999", x.ofSeller(1, 2), 999);
        x.days(1);
        due("one made for 0", x.ofSeller(0, 5), 0);
        due("one made for 999", x.ofSeller(1, 5), -999);
    }

    private static void makes() {
        says("MAKES (0 to 9 a day),");
        FallingSlates x = new FallingSlates();
        for (int i = 0; i < 6; i++) x.seller(0, 0, 20 + (i < 3 ? i : i + 4));
        int[] makes = {0, 1, 2, 7, 8, 9};
        for (int i = 0; i < 6; i++) due("MAKES", x.ofSeller(i, 3), makes[i]);
        x.days(1);
        for (int i = 0; i < 6; i++) due("made in a day", x.ofSeller(i, 4), makes[i]);
        for (int i = 0; i < 6; i++) due("at COST 2", x.ofSeller(i, 5), -2 * makes[i]);
    }

    private static void stock() {
        says("a STOCK (0 to 99; 0 at first),");
        FallingSlates x = new FallingSlates();
        x.seller(0, 0, 9);
        due("at first", x.ofSeller(0, 4), 0);
        due("-1", x.set(0, 0, -1), BEYOND);
        due("100", x.set(0, 0, 100), BEYOND);
        due("99", x.set(0, 0, 99), 0);
        x.days(1);
        due("99 and 9 more", x.ofSeller(0, 4), 99);
        due("it was 99", x.set(0, 0, 91), 99);
        x.days(1);
        due("91 and 9 more", x.ofSeller(0, 4), 99);
        due("it was 99", x.set(0, 0, 90), 99);
        x.days(1);
        due("90 and 9 more", x.ofSeller(0, 4), 99);
        due("0", x.set(0, 0, 0), 99);
    }

    private static void purse() {
        says("a PURSE (0 at first; held within -99999999 and 99999999),");
        FallingSlates x = new FallingSlates();
        x.seller(0, 0, 19);
        x.set(0, 2, 10);
        due("at first", x.ofSeller(0, 5), 0);
        due("set below", x.set(0, 1, -100000000), BEYOND);
        due("set above", x.set(0, 1, 100000000), BEYOND);
        due("set", x.set(0, 1, -99999990), 0);
        x.days(1);
        due("9 less, just so", x.ofSeller(0, 5), -99999999);
        x.days(1);
        due("9 less, held", x.ofSeller(0, 5), -99999999);
        x.set(0, 1, -99999991);
        x.days(1);
        due("9 less, held", x.ofSeller(0, 5), -99999999);

        x = new FallingSlates();
        x.seller(0, 0, 0);
        x.sort(1, 999, 0);
        stand(x, 0, 9, 10);
        x.set(0, 1, 99999989);
        x.days(1);
        due("10 more, just so", x.ofSeller(0, 5), 99999999);
        x.days(1);
        due("10 more, held", x.ofSeller(0, 5), 99999999);
        x.set(0, 1, 99999990);
        x.days(1);
        due("10 more, held", x.ofSeller(0, 5), 99999999);
        due("three are gone", x.ofSeller(0, 4), 6);
    }

    private static void purseHeldAtEachStep() {
        says("a PURSE (0 at first; held within -99999999 and 99999999),");
        FallingSlates x = new FallingSlates();
        x.seller(0, 0, 101);
        x.sort(1, 999, 0);
        x.set(0, 2, 100);
        x.set(0, 1, -99999999);
        x.days(1);
        due("held, and then 100 more", x.ofSeller(0, 5), -99999899);
        x.set(0, 1, 99999999);
        due("held, and then 10 less", x.then(1, 0, 5), 99999999);
        x.set(0, 2, 5);
        due("10 less, and then 5 more", x.then(1, 0, 5), 99999994);
    }

    private static void slate() {
        says("a SLATE: the price (0 to 999) that was ASKED last, or nothing yet.");
        FallingSlates x = new FallingSlates();
        x.seller(1, 7, 0);
        due("nothing yet", x.ofSeller(0, 6), -1);
        x.days(1);
        due("ASKED", x.ofSeller(0, 6), 900);
        x.days(1);
        due("ASKED last", x.ofSeller(0, 6), 893);
        due("1000", x.set(0, 2, 1000), BEYOND);
        due("-2", x.set(0, 2, -2), BEYOND);
        due("999", x.set(0, 2, 999), 893);
        due("0", x.set(0, 2, 0), 999);
        due("0 is something", x.set(0, 2, -1), 0);
        due("nothing again", x.ofSeller(0, 6), -1);
    }

    private static int would(int kind, int m, int cost, int stock, int slate) {
        FallingSlates x = new FallingSlates();
        x.seller(kind, m, 10 * cost);
        stand(x, 0, stock, slate);
        return x.ofSeller(0, 7);
    }

    private static void wouldOfSeller() {
        says("SELLER: its SLATE, 500 if there is nothing on it.");
        due("nothing", would(0, 50, 999, 99, -1), 500);
        due("0", would(0, 50, 999, 99, 0), 0);
        due("1", would(0, 50, 0, 0, 1), 1);
        due("999", would(0, 50, 0, 99, 999), 999);
    }

    private static void wouldIsHeld() {
        says("WOULD of a SELLER (held within 0 to 999):");
        int[] kinds = {1, 2, 3, 4};
        for (int kind : kinds) {
            due("just 0: " + kind, would(kind, 5, 0, kind == 4 ? 60 : 19, 5), 0);
            due("below 0: " + kind, would(kind, 6, 0, kind == 4 ? 60 : 19, 5), 0);
            due("far below 0: " + kind, would(kind, 99, 0, 99, 0), 0);
        }
        due("HURRIED below 0 by twice m", would(3, 6, 0, 20, 11), 0);
        due("STUBBORN with no COST", would(5, 99, 0, 99, 0), 0);
        due("999", would(1, 0, 0, 0, 999), 999);
        FallingSlates x = new FallingSlates();
        x.seller(1, 99, 0);
        x.set(0, 2, 50);
        due("ASKS 0", x.ofSeller(0, 8), 0);
        x.days(1);
        due("0 is asked", x.ofSeller(0, 6), 0);
    }

    private static void wouldOfHigh() {
        says("HIGH: its SLATE less m, 900 without.");
        due("without", would(1, 50, 999, 99, -1), 900);
        due("less m", would(1, 50, 999, 99, 300), 250);
        due("less none", would(1, 0, 0, 0, 300), 300);
        due("0 is something", would(1, 0, 0, 0, 0), 0);
    }

    private static void wouldOfStepper() {
        says("STEPPER: as SELLER less m.");
        due("without", would(2, 20, 999, 99, -1), 480);
        due("less m", would(2, 20, 999, 99, 300), 280);
        due("0 is something", would(2, 0, 0, 0, 0), 0);
    }

    private static void wouldOfHurried() {
        says("HURRIED: as STEPPER, less m once more if STOCK is 20 or more.");
        due("STOCK 19", would(3, 30, 999, 19, 300), 270);
        due("STOCK 20", would(3, 30, 999, 20, 300), 240);
        due("STOCK 99", would(3, 30, 999, 99, 300), 240);
        due("STOCK 0", would(3, 30, 999, 0, 300), 270);
        due("STOCK 19, nothing", would(3, 30, 0, 19, -1), 470);
        due("STOCK 20, nothing", would(3, 30, 0, 20, -1), 440);
    }

    private static void wouldOfHolder() {
        says("HOLDER: as SELLER, less m if STOCK is 60 or more.");
        due("STOCK 59", would(4, 40, 999, 59, 300), 300);
        due("STOCK 60", would(4, 40, 999, 60, 300), 260);
        due("STOCK 99", would(4, 40, 999, 99, 300), 260);
        due("STOCK 59, nothing", would(4, 40, 0, 59, -1), 500);
        due("STOCK 60, nothing", would(4, 40, 0, 60, -1), 460);
    }

    private static void wouldOfStubborn() {
        says("STUBBORN: as HOLDER, COST at least.");
        due("above COST", would(5, 60, 299, 59, 300), 300);
        due("COST", would(5, 60, 300, 59, 300), 300);
        due("below COST", would(5, 60, 301, 59, 300), 301);
        due("STOCK 60, above COST", would(5, 60, 239, 60, 300), 240);
        due("STOCK 60, below COST", would(5, 60, 241, 60, 300), 241);
        due("nothing, below COST", would(5, 60, 501, 59, -1), 501);
        due("nothing, above COST", would(5, 60, 499, 59, -1), 500);
        due("COST 999", would(5, 60, 999, 0, 0), 999);
    }

    private static void wouldOfNewly() {
        says("NEWLY: as HIGH, but 900 if that (ahead of holding) is below COST;");
        due("above COST", would(6, 70, 229, 0, 300), 230);
        due("COST", would(6, 70, 230, 0, 300), 230);
        due("below COST", would(6, 70, 231, 0, 300), 900);
        due("ahead of holding: 0 is not below 0", would(6, 5, 0, 0, 5), 0);
        due("ahead of holding: -1 is below 0", would(6, 6, 0, 0, 5), 900);
        due("nothing", would(6, 70, 0, 0, -1), 900);
        due("nothing, COST 900", would(6, 70, 900, 0, -1), 900);
        due("nothing, COST 999", would(6, 70, 999, 0, -1), 900);
        due("STOCK is nothing to it", would(6, 70, 230, 99, 300), 230);
    }

    private static void newlyWipesItsSlate() {
        says("as it ASKS its SLATE is wiped first then.");
        FallingSlates x = new FallingSlates();
        x.seller(6, 70, 2310);
        x.seller(6, 70, 2300);
        x.set(0, 2, 300);
        x.set(1, 2, 300);
        read(x, 0, "0");
        due("wiped: any law lets it ask 900", x.ofSeller(0, 8), 900);
        due("at COST it isn't wiped", x.ofSeller(1, 8), 300);
        due("it isn't wiped by looking", x.ofSeller(0, 6), 300);
        due("nor may it ask 900 yet", x.may(0, 900), 0);
        x.days(1);
        due("900 is on it", x.ofSeller(0, 6), 900);
        due("300 is on it", x.ofSeller(1, 6), 300);
        read(x, 0, "p<900");
        x.set(0, 2, 300);
        due("a law against 900 isn't asked", x.then(1, 0, 6), 900);
        x = new FallingSlates();
        x.seller(6, 70, 9990);
        x.set(0, 2, 950);
        due("downward, too", x.then(1, 0, 6), 900);
        due("and each day", x.then(9, 0, 6), 900);
    }

    private static void asksIfItMay() {
        says("It ASKS what it WOULD, if it MAY, else what is on its SLATE.");
        FallingSlates x = new FallingSlates();
        x.seller(5, 0, 4000);
        x.set(0, 2, 300);
        x.now(4, 99);
        due("WOULD", x.ofSeller(0, 7), 400);
        due("may not: what is on it", x.ofSeller(0, 8), 300);
        due("a day later", x.then(1, 0, 6), 300);
        x.now(4, 100);
        due("may", x.ofSeller(0, 8), 400);
        due("a day later", x.then(1, 0, 6), 400);
        x.set(0, 2, 0);
        due("may not: the 0 on it", x.ofSeller(0, 8), 0);
        due("a day later", x.then(1, 0, 6), 0);
        x = new FallingSlates();
        x.seller(2, 20, 0);
        x.set(0, 2, 300);
        read(x, 0, "!(p<a)");
        due("a law against falling", x.ofSeller(0, 8), 300);
        due("days later", x.then(9, 0, 6), 300);
    }

    private static void mayByNothing() {
        says("It MAY ask a price, if there is nothing on its SLATE,");
        FallingSlates x = new FallingSlates();
        x.seller(0, 0, 0);
        read(x, 0, "0");
        due("0", x.may(0, 0), 1);
        due("999", x.may(0, 999), 1);
        x.set(0, 2, 0);
        due("0 on it: 0", x.may(0, 0), 0);
        due("0 on it: 999", x.may(0, 999), 0);
    }

    private static void mayByLaw() {
        says("or THE LAW (its TEXT) isn't 0.");
        FallingSlates x = new FallingSlates();
        x.seller(0, 0, 0);
        x.set(0, 2, 300);
        due("as much", x.may(0, 300), 1);
        due("one more", x.may(0, 301), 0);
        due("999", x.may(0, 999), 0);
        due("0", x.may(0, 0), 1);
        String[] texts = {"0-1", "1", "2", "9999*9999", "p-a"};
        for (String t : texts) {
            read(x, 0, t);
            due("isn't 0: " + t, x.may(0, 301), 1);
        }
        due("p-a is 0", x.may(0, 300), 0);
        due("p-a is below 0", x.may(0, 299), 1);
    }

    private static void eightSorts() {
        says("SORTS 0, 1, .. (at most 8) of BUYERS:");
        FallingSlates x = new FallingSlates();
        due("none yet", x.ofSort(0, 0), BEYOND);
        for (int i = 0; i < 8; i++) {
            due("the next number", x.sort(i, 0, 0), i);
            due("it is there", x.ofSort(i, 0), i);
            due("none behind it", x.ofSort(i + 1, 0), BEYOND);
        }
        due("a ninth", x.sort(0, 0, 0), FULL);
        due("eight", x.count(2), 8);
        due("none below", x.ofSort(-1, 0), BEYOND);
    }

    private static void come() {
        says("COME (0 to 9 a day),");
        FallingSlates x = new FallingSlates();
        due("-1", x.sort(-1, 0, 1), BEYOND);
        due("10", x.sort(10, 0, 1), BEYOND);
        due("0", x.sort(0, 0, 1), 0);
        due("9", x.sort(9, 0, 1), 1);
        x.days(2);
        due("none came", x.ofSort(0, 3), 0);
        due("nine a day", x.ofSort(1, 3), 18);
    }

    private static void worthOfASort() {
        says("WORTH (0 to 999),");
        FallingSlates x = new FallingSlates();
        due("-1", x.sort(1, -1, 0), BEYOND);
        due("1000", x.sort(1, 1000, 0), BEYOND);
        due("0", x.sort(1, 0, 0), 0);
        due("999", x.sort(1, 999, 0), 1);
        due("WORTH 0", x.ofSort(0, 1), 0);
        due("WORTH 999", x.ofSort(1, 1), 999);
        x.seller(0, 0, 0);
        stand(x, 0, 9, 999);
        x.days(1);
        due("one buys at 999", x.ofSeller(0, 4), 8);
        x.set(0, 2, 0);
        x.days(1);
        due("both buy at 0", x.ofSeller(0, 4), 6);
    }

    private static void stays() {
        says("STAYS (0 to 9),");
        FallingSlates x = new FallingSlates();
        due("-1", x.sort(1, 0, -1), BEYOND);
        due("10", x.sort(1, 0, 10), BEYOND);
        due("0", x.sort(1, 0, 0), 0);
        due("9", x.sort(1, 0, 9), 1);
        due("1", x.sort(1, 0, 1), 2);
        due("STAYS 0", x.ofSort(0, 2), 0);
        due("STAYS 9", x.ofSort(1, 2), 9);
        x.days(12);
        due("0 waits for nothing", x.ofSort(0, 3), 0);
        due("9 waits on and on", x.ofSort(1, 3), 12);
        due("1 waits on and on", x.ofSort(2, 3), 12);
    }

    private static void waiting() {
        says("WAITING (0 to 99; 0 at first).");
        FallingSlates x = new FallingSlates();
        x.sort(9, 0, 1);
        due("at first", x.ofSort(0, 3), 0);
        x.days(11);
        due("99 just so", x.ofSort(0, 3), 99);
        x.days(1);
        due("99 at most", x.ofSort(0, 3), 99);
        x = new FallingSlates();
        x.sort(7, 0, 1);
        x.days(14);
        due("98", x.ofSort(0, 3), 98);
        x.days(1);
        due("105 are 99", x.ofSort(0, 3), 99);
    }

    private static void feels() {
        says("FEELS of a SORT: WORTH times HEAT of SEASON by 10.");
        FallingSlates x = new FallingSlates();
        x.sort(0, 999, 0);
        x.sort(0, 0, 0);
        x.sort(0, 1, 0);
        x.now(1, 40);
        x.now(2, 9);
        x.now(3, 0);
        due("most", x.ofSort(0, 4), 3996);
        due("of nothing", x.ofSort(1, 4), 0);
        x.now(0, 1);
        due("999 by 9", x.ofSort(0, 4), 899);
        due("1 by 9", x.ofSort(2, 4), 0);
        x.now(2, 10);
        due("1 by 10", x.ofSort(2, 4), 1);
        x.now(0, 2);
        due("999 by 0", x.ofSort(0, 4), 0);
    }
}
