/** The sentences of the Terms on texts that name an edge, each with a test of its own. */
public final class EdgesOfTextsTest extends Checks {
    private static final String LAW_NAMES = "patu";
    private static final String BUYS_NAMES = "pfst";

    public static void main(String[] args) {
        fiftyBytes();
        anyByte();
        joinedByOr();
        joinedByAnd();
        comparedOnce();
        sums();
        products();
        digits();
        nots();
        brackets();
        noBlanks();
        fiveOpen();
        wraps();
        cutAndRest();
        byZero();
        oneOrZero();
        allIsWorkedOut();
        faults();
        endsTooEarly();
        allShortTexts();
        namesOfTheLaw();
        lawWithoutText();
        namesOfBuys();
        buysWithoutText();
        up();
        end();
    }

    private static int fault(String t) {
        FallingSlates x = new FallingSlates();
        return -10 - read(x, 0, t);
    }

    private static void fiftyBytes() {
        says("TEXTS are read from THE TAPE (bytes, at most 50):");
        String fifty = "1+".repeat(24) + "12";
        due("fifty", worth(fifty), 36);
        FallingSlates x = new FallingSlates();
        feedAll(x, fifty);
        due("fifty on it", x.count(5), 50);
        due("one more", x.feed('3', 1), FULL);
        due("still fifty", x.count(5), 50);
        due("read", x.text(0), 1);
        due("without the one more", x.law(0, 0, 0, 0, 0), 36);
        String ones = "!".repeat(5) + "0" + "|!!!!!0".repeat(6);
        due("48 of many steps", worth(ones), 1);
        String brackets = "(((((9)))))" + "+(((((9)))))".repeat(3);
        due("47 with brackets", worth(brackets), 36);
    }

    private static void anyByte() {
        says("TEXTS are read from THE TAPE (bytes, at most 50):");
        for (int b = 0; b < 256; b++) {
            char c = (char) b;
            boolean digit = c >= '0' && c <= '9';
            boolean whole = digit || LAW_NAMES.indexOf(c) >= 0;
            boolean opens = c == '!' || c == '(';
            boolean joins = "|&<=>+-*/%".indexOf(c) >= 0;
            FallingSlates x = new FallingSlates();
            due("byte " + b + " alone", read(x, 0, "" + c), whole ? 1 : opens ? -11 : -10);
            due("byte " + b + " behind p", read(x, 0, "p" + c), joins ? -12 : -11);
            due("byte " + b + " behind 1", read(x, 0, "1" + c), digit ? 1 : joins ? -12 : -11);
            due("byte " + b + " behind (p", read(x, 0, "(p" + c), c == ')' ? 1 : joins ? -13 : -12);
            due("byte " + b + " behind p+", read(x, 0, "p+" + c), whole ? 1 : opens ? -13 : -12);
        }
    }

    private static void joinedByOr() {
        says("T: A { | A }.");
        due("one", worth("5"), 5);
        due("two", worth("0|5"), 1);
        due("many", worth("0|0|0|0|0|0|0|0|0|0|0|0|0|0|0|0|0|0|0|0|0|0|0|0|7"), 1);
        due("many of none", worth("0|0|0|0|0|0|0|0|0|0|0|0|0|0|0|0|0|0|0|0|0|0|0|0|0"), 0);
        due("none behind", fault("1|"), 2);
        due("none ahead", fault("|1"), 0);
        due("two signs", fault("1||1"), 2);
    }

    private static void joinedByAnd() {
        says("A: B { & B }.");
        due("two", worth("2&5"), 1);
        due("many", worth("1&2&3&4&5&6&7&8&9&1&2&3&4&5&6&7&8&9&1&2&3&4&5&6&7"), 1);
        due("one of them 0", worth("1&2&3&4&5&6&7&8&0&1&2&3&4&5&6&7&8&9&1&2&3&4&5&6&7"), 0);
        due("binds more than |", worth("1|0&0"), 1);
        due("binds more than |", worth("0&0|1"), 1);
        due("none behind", fault("1&"), 2);
        due("none ahead", fault("&1"), 0);
        due("two signs", fault("1&&1"), 2);
    }

    private static void comparedOnce() {
        says("B: S, or S < S, S = S, S > S.");
        due("<", worth("2<3"), 1);
        due("<, alike", worth("3<3"), 0);
        due("=", worth("3=3"), 1);
        due("=, unlike", worth("3=2"), 0);
        due(">", worth("3>2"), 1);
        due(">, alike", worth("3>3"), 0);
        String signs = "<=>";
        for (int i = 0; i < 3; i++) {
            for (int k = 0; k < 3; k++) {
                String twice = "1" + signs.charAt(i) + "2" + signs.charAt(k) + "3";
                due("twice: " + twice, fault(twice), 3);
                due("twice in brackets: (" + twice + ")", fault("(" + twice + ")"), 4);
                String apart = "1" + signs.charAt(i) + "2&1" + signs.charAt(k) + "3";
                due("apart: " + apart, read(new FallingSlates(), 0, apart), 1);
                due("apart: " + apart, read(new FallingSlates(), 0, apart.replace('&', '|')), 1);
                due("two signs", fault("1" + signs.charAt(i) + signs.charAt(k) + "3"), 2);
            }
        }
        due("in brackets", worth("(1<2)<3"), 1);
        due("in brackets", worth("3>(2>1)"), 1);
        due("in brackets, then twice", fault("(1<2)<3<4"), 7);
        due("behind sums", fault("1+1<2+2<3"), 7);
        due("binds more than &", worth("0&0=0"), 0);
        due("none behind", fault("1<"), 2);
        due("none ahead", fault("=1"), 0);
    }

    private static void sums() {
        says("S: P { + P, - P }.");
        due("from the left", worth("9-4-3"), 2);
        due("in turn", worth("9-4+3-2"), 6);
        due("many", worth("1+1-1+1-1+1-1+1-1+1-1+1-1+1-1+1-1+1-1+1-1+1-1+1+1"), 3);
        due("binds more than =", worth("1+1=2"), 1);
        due("binds more than =", worth("2=1+1"), 1);
        due("no sign ahead", fault("-1"), 0);
        due("no sign ahead", fault("+1"), 0);
        due("none behind", fault("1-"), 2);
        due("two signs", fault("1--1"), 2);
        due("no sign ahead in brackets", fault("(-1)"), 1);
    }

    private static void products() {
        says("P: Q { * Q, / Q, % Q }.");
        due("from the left", worth("100/7/2"), 7);
        due("in turn", worth("7/2*2"), 6);
        due("in turn", worth("8%5*2"), 6);
        due("in turn", worth("2*8%5"), 1);
        due("binds more than +", worth("1+2*3"), 7);
        due("binds more than -", worth("8-5%3"), 6);
        due("many", worth("1*1*1*1*1*1*1*1*1*1*1*1*1*1*1*1*1*1*1*1*1*1*1*1*7"), 7);
        due("none behind", fault("1*"), 2);
        due("none ahead", fault("%1"), 0);
        due("two signs", fault("1*/1"), 2);
    }

    private static void digits() {
        says("Q: a NUMBER of 1 to 4 digits,");
        due("one", worth("0"), 0);
        due("one", worth("9"), 9);
        due("four", worth("9999"), 9999);
        due("four", worth("0000"), 0);
        due("four", worth("0009"), 9);
        due("five", fault("10000"), 4);
        due("five of 0", fault("00000"), 4);
        due("five behind a sign", fault("1+12345"), 6);
        due("five in brackets", fault("(12345)"), 5);
        due("six", fault("123456"), 4);
        due("a name behind it", fault("12p"), 2);
        due("behind a name", fault("p12"), 1);
    }

    private static void nots() {
        says("a NAME, ! Q, ( T ).");
        due("of 0", worth("!0"), 1);
        due("of 7", worth("!7"), 0);
        due("of !", worth("!!7"), 1);
        due("binds most", worth("!0+1"), 2);
        due("binds most", worth("!0*5"), 5);
        due("of brackets", worth("!(0+1)"), 0);
        due("of nothing", fault("!"), 1);
        due("of a sign", fault("!+1"), 1);
        due("behind one", fault("1!"), 1);
        due("two names", fault("pa"), 1);
        due("a name of BUYS alone", fault("p+f"), 2);
        due("a large letter", fault("P"), 0);
    }

    private static void brackets() {
        says("a NAME, ! Q, ( T ).");
        due("one", worth("(5)"), 5);
        due("a whole T", worth("(0|3)*5"), 5);
        due("a whole T behind", worth("5-(3-1)"), 3);
        due("empty", fault("()"), 1);
        due("never closed", fault("(1"), 2);
        due("closed twice", fault("(1))"), 3);
        due("never opened", fault("1)"), 1);
        due("behind one", fault("(1)(1)"), 3);
        due("behind a number", fault("1(1)"), 1);
        due("closed too early", fault("(1+)"), 3);
    }

    private static void noBlanks() {
        says("No blanks.");
        char[] blanks = {' ', '\t', '\n', '\r', 0, 160};
        for (char b : blanks) {
            due("ahead", fault(b + "1"), 0);
            due("behind", fault("1" + b), 1);
            due("ahead of a sign", fault("1" + b + "+1"), 1);
            due("behind a sign", fault("1+" + b + "1"), 2);
            due("behind !", fault("!" + b + "1"), 1);
            due("in brackets", fault("(" + b + "1)"), 1);
            due("between digits", fault("1" + b + "1"), 1);
        }
    }

    private static void fiveOpen() {
        says("At most 5 of ! and ( are open at once.");
        String[] five = {"!!!!!1", "(((((1)))))", "!(!(!1))", "(!(!(1)))", "((((!1+!0))))", "!!!!(1)", "((((!1))))", "(((!!1)))"};
        for (String t : five) due("five: " + t, read(new FallingSlates(), 0, t), 1);
        String[] six = {"!!!!!!1", "((((((1))))))", "!(!(!(1)))", "(!(!(!1)))", "!!!!!(1)", "(((((!1)))))", "((((!!1))))",
            "(((!!(1))))"};
        for (String t : six) due("six: " + t, fault(t), 5);
        due("closed ones count no more", worth("!!!!!1+!!!!!1+(((((1)))))+!!!!!1"), 1);
        due("! is closed with its Q", worth("!1+!1+!1+!1+!1+!1+!1+!0"), 1);
        due("( is closed by )", worth("(1)+(1)+(1)+(1)+(1)+(1)+(1)"), 7);
        due("! of brackets is closed with them", worth("!(1)+!(1)+!(1)+!(0)+!(0)"), 2);
        due("closed, and five again", worth("((!1)+(!(!1)))"), 1);
        due("closed, and six", fault("((!1)+(!(!(!1))))"), 10);
        due("! in brackets, closed, and one more", worth("((((!1+!1+!0))))"), 1);
        due("! in brackets, closed, and two more", fault("((((!1+!!1))))"), 8);
    }

    private static void wraps() {
        says("Ints that wrap;");
        FallingSlates x = new FallingSlates();
        read(x, 0, "p+a");
        due("+", x.law(0, MAX, 1, 0, 0), MIN);
        due("+", x.law(0, MIN, MIN, 0, 0), 0);
        read(x, 0, "p-a");
        due("-", x.law(0, MIN, 1, 0, 0), MAX);
        due("-", x.law(0, 0, MIN, 0, 0), MIN);
        read(x, 0, "p*a");
        due("*", x.law(0, 65536, 65536, 0, 0), 0);
        due("*", x.law(0, MIN, -1, 0, 0), MIN);
        due("*", x.law(0, 123456789, 987654321, 0, 0), 123456789 * 987654321);
        read(x, 0, "p/a");
        due("/", x.law(0, MIN, -1, 0, 0), MIN);
        due("9999*9999*9999", worth("9999*9999*9999"), 9999 * 9999 * 9999);
    }

    private static void cutAndRest() {
        says("/ cut, % the rest that it leaves,");
        int[][] cases = {{7, 2, 3, 1}, {-7, 2, -3, -1}, {7, -2, -3, 1}, {-7, -2, 3, -1}, {1, 2, 0, 1}, {-1, 2, 0, -1},
            {MIN, -1, MIN, 0}, {MIN, 2, MIN / 2, 0}, {MAX, MIN, 0, MAX}, {6, 3, 2, 0}, {-6, 3, -2, 0}};
        FallingSlates x = new FallingSlates();
        read(x, 0, "p/a");
        for (int[] c : cases) due(c[0] + "/" + c[1], x.law(0, c[0], c[1], 0, 0), c[2]);
        read(x, 0, "p%a");
        for (int[] c : cases) due(c[0] + "%" + c[1], x.law(0, c[0], c[1], 0, 0), c[3]);
    }

    private static void byZero() {
        says("both by 0 are 0;");
        int[] all = {0, 1, -1, 7, MIN, MAX};
        FallingSlates x = new FallingSlates();
        read(x, 0, "p/a");
        for (int v : all) due(v + "/0", x.law(0, v, 0, 0, 0), 0);
        read(x, 0, "p%a");
        for (int v : all) due(v + "%0", x.law(0, v, 0, 0, 0), 0);
        due("on from there", worth("7/0+5"), 5);
        due("on from there", worth("7%(1-1)+5"), 5);
    }

    private static void oneOrZero() {
        says("| & < = > ! are 1 or 0, what is not 0 being true;");
        int[] all = {0, 1, -1, 2, 256, MIN, MAX};
        FallingSlates x = new FallingSlates();
        for (int v : all) {
            for (int w : all) {
                read(x, 0, "p|a");
                due(v + "|" + w, x.law(0, v, w, 0, 0), v != 0 || w != 0 ? 1 : 0);
                read(x, 0, "p&a");
                due(v + "&" + w, x.law(0, v, w, 0, 0), v != 0 && w != 0 ? 1 : 0);
            }
            read(x, 0, "!p");
            due("!" + v, x.law(0, v, 0, 0, 0), v == 0 ? 1 : 0);
        }
        x = new FallingSlates();
        String[] signs = {"<", "=", ">"};
        for (int s = 0; s < 3; s++) {
            read(x, 0, "p" + signs[s] + "a");
            due("less", x.law(0, MIN, MAX, 0, 0), s == 0 ? 1 : 0);
            due("alike", x.law(0, MIN, MIN, 0, 0), s == 1 ? 1 : 0);
            due("more", x.law(0, MAX, MIN, 0, 0), s == 2 ? 1 : 0);
            due("one less", x.law(0, -1, 0, 0, 0), s == 0 ? 1 : 0);
        }
    }

    private static void allIsWorkedOut() {
        says("all is worked out.");
        due("behind a true |", worth("1|7/0"), 1);
        due("behind a false &", worth("0&7%0"), 0);
        due("a text's last value is worked out anew", readTwice(), 2);
    }

    private static int readTwice() {
        FallingSlates x = new FallingSlates();
        read(x, 0, "p|a+!t*u");
        return 2 * x.law(0, 0, 0, 0, 3) + x.law(0, 0, 0, 1, 3);
    }

    private static void faults() {
        says("FAULT: the place of the first byte with which no TEXT goes on;");
        due("at 0", fault(")"), 0);
        due("at 1", fault("1)"), 1);
        due("the first of two", fault("1)+"), 1);
        due("of a comparison", fault("p<a<t"), 3);
        due("behind brackets", fault("(1)2"), 3);
        due("the last of fifty", fault("1+".repeat(24) + "1)"), 49);
        due("the first of fifty", fault("x" + "1+".repeat(24) + "1"), 0);
        FallingSlates x = new FallingSlates();
        due("of THE LAW", read(x, 0, "p+s"), -12);
        due("of BUYS", read(x, 1, "p+a"), -12);
    }

    private static void endsTooEarly() {
        says("how many there are, if it ends too early.");
        due("empty", fault(""), 0);
        due("behind !", fault("!"), 1);
        due("behind (", fault("("), 1);
        due("behind a sign", fault("1+"), 2);
        due("behind a comparison", fault("1+1<"), 4);
        due("not closed", fault("(1"), 2);
        due("not closed", fault("((1)"), 4);
        due("not closed behind four digits", fault("(1234"), 5);
        due("fifty", fault("1+".repeat(25)), 50);
        due("fifty, not closed", fault("(" + "1+".repeat(24) + "1"), 50);
    }

    private static void allShortTexts() {
        says("FAULT: the place of the first byte with which no TEXT goes on; how many there are, if it ends too early.");
        String bytes = "p1|&<+*!()";
        for (int length = 0; length <= 5; length++) allTexts(bytes, length);
        allTexts("!(1<)", 8);
    }

    private static void allTexts(String bytes, int length) {
        int all = (int) Math.round(Math.pow(bytes.length(), length));
        FallingSlates x = new FallingSlates();
        for (int t = 0; t < all; t++) {
            if (t % 200 == 0) x = new FallingSlates();
            StringBuilder b = new StringBuilder();
            for (int i = 0, rest = t; i < length; i++, rest /= bytes.length()) b.append(bytes.charAt(rest % bytes.length()));
            int want = PlainSlates.fault(b.toString(), LAW_NAMES);
            int got = read(x, 0, b.toString());
            if (got != (want < 0 ? 1 : -10 - want)) due("text " + b, got, want < 0 ? 1 : -10 - want);
        }
    }

    private static void namesOfTheLaw() {
        says("USES: 0 THE LAW, NAMES p the price, a what is on the SLATE, t TODAY, u UP;");
        FallingSlates x = new FallingSlates();
        due("no f", read(x, 0, "f"), -10);
        due("no s", read(x, 0, "s"), -10);
        x.seller(0, 0, 0);
        x.days(3);
        x.set(0, 2, 300);
        x.now(4, 40);
        read(x, 0, "p=5&a=300&t=3&u=40");
        due("all four", x.may(0, 5), 1);
        due("p", x.may(0, 6), 0);
        x.set(0, 2, 301);
        due("a", x.may(0, 5), 0);
        x.set(0, 2, 300);
        x.now(4, 41);
        due("u", x.may(0, 5), 0);
        x.now(4, 40);
        x.days(1);
        x.set(0, 2, 300);
        due("t", x.may(0, 5), 0);
        for (int i = 0; i < 4; i++) {
            read(x, 0, "" + LAW_NAMES.charAt(i));
            due("in order", x.law(0, 10, 11, 12, 13), 10 + i);
        }
    }

    private static void lawWithoutText() {
        says("without a TEXT as that of !(p>a+u) would give.");
        FallingSlates x = new FallingSlates();
        FallingSlates y = new FallingSlates();
        read(y, 0, "!(p>a+u)");
        int[] some = {0, 1, -1, 300, 301, 999, MIN, MAX, MAX - 1};
        due("as much and so much upward", x.law(0, 310, 300, 0, 10), 1);
        due("one more", x.law(0, 311, 300, 0, 10), 0);
        due("a+u goes round", x.law(0, 0, MAX, 0, 1), 0);
        for (int p : some) {
            for (int a : some) {
                x = new FallingSlates();
                y = new FallingSlates();
                read(y, 0, "!(p>a+u)");
                for (int u : some) due("as that", x.law(0, p, a, 7, u), y.law(0, p, a, 7, u));
            }
        }
    }

    private static void namesOfBuys() {
        says("1 BUYS, NAMES p the price, f FEELS, s STAYS, t TODAY;");
        FallingSlates x = new FallingSlates();
        due("no a", read(x, 1, "a"), -10);
        due("no u", read(x, 1, "u"), -10);
        for (int i = 0; i < 4; i++) {
            read(x, 1, "" + BUYS_NAMES.charAt(i));
            due("in order", x.law(1, 10, 11, 12, 13), 10 + i);
        }
        due("all as named", boughtBy("p=50&f=140&s=3&t=0"), 2);
        due("p", boughtBy("p=49"), 0);
        due("f is not WORTH", boughtBy("f=200"), 0);
        due("s", boughtBy("s=2"), 0);
        due("t is not the next day", boughtBy("t=1"), 0);
        due("what is not 0 is enough", boughtBy("0-p"), 2);
    }

    /** Two who come, for whom it is worth 200 by 7, who stay 3, at a price of 50 on day 0. */
    private static int boughtBy(String text) {
        FallingSlates x = new FallingSlates();
        x.seller(0, 0, 0);
        stand(x, 0, 9, 50);
        x.sort(2, 200, 3);
        x.now(1, 7);
        due("text(1) of " + text, read(x, 1, text), 1);
        x.days(1);
        return 9 - x.ofSeller(0, 4);
    }

    private static void buysWithoutText() {
        says("without as that of !(p>f) would.");
        FallingSlates x = new FallingSlates();
        due("as much", x.law(1, 300, 300, 0, 0), 1);
        due("more", x.law(1, 301, 300, 9, 9), 0);
        due("less", x.law(1, 299, 300, 0, 0), 1);
        due("far apart", x.law(1, MIN, MAX, 0, 0), 1);
        due("far apart", x.law(1, MAX, MIN, 0, 0), 0);
        x.seller(0, 0, 0);
        x.sort(1, 200, 0);
        x.now(1, 7);
        stand(x, 0, 9, 141);
        due("dearer by one than it feels", x.then(1, 0, 4), 9);
        x.set(0, 2, 140);
        due("as much as it feels", x.then(1, 0, 4), 8);
    }

    private static void up() {
        says("UP (0 to 999; 0 at first).");
        FallingSlates x = new FallingSlates();
        x.seller(0, 0, 0);
        x.set(0, 2, 0);
        due("0 at first", x.may(0, 1), 0);
        due("-1", x.now(4, -1), BEYOND);
        due("1000", x.now(4, 1000), BEYOND);
        due("999", x.now(4, 999), 0);
        due("upward by 999", x.may(0, 999), 1);
        due("998", x.now(4, 998), 999);
        due("upward by 998", x.may(0, 999), 0);
        due("0", x.now(4, 0), 998);
        due("none upward", x.may(0, 1), 0);
    }
}
