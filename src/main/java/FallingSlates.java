import java.util.Arrays;

/** Sellers whose slates may only fall, buyers who buy or wait, and what a law of prices is worth to whom. */
public final class FallingSlates {
    private static final int LOW = -1000000000;
    private static final int BEYOND = 1;
    private static final int NONE = 2;
    private static final int STATE = 3;
    private static final int FULL = 4;
    private static final int KIND = 5;

    private static final int NOTHING = -1;
    private static final int PRICE_MOST = 999;
    private static final int PURSE_MOST = 99999999;
    private static final int PURSE_BELOW_ALL = -PURSE_MOST - 1;
    private static final int STOCK_MOST = 99;
    private static final int WAITING_MOST = 99;
    private static final int HEAT_MOST = 40;
    private static final int NUMBER_MOST = 99;
    private static final int DIGIT_MOST = 9;

    private static final int KINDS = 7;
    private static final int SELLERS = 6;
    private static final int SORTS = 8;
    private static final int SEASONS = 3;
    private static final int SHEETS = 4;
    private static final int SHEET_MOST = 40;
    private static final int USES = 2;
    private static final int VOICES = 4;
    private static final int OF_SELLER = 9;

    private static final int TAPE_MOST = 50;
    private static final int TELL_MOST = 20;
    private static final int TRACE_MOST = 40;
    private static final int FEED_MOST = 8;

    private static final int DAY_LAST = 399;
    private static final int DAYS_MOST = 60;
    private static final int SPAN_MOST = 9;
    private static final int PRICE_STEP = 10;
    private static final int CUTS_LEAST = 2;
    private static final int CUTS_MOST = 3;
    private static final int[] CUTS = {0, 10, 20, 50, 100};

    private final Market market = new Market();
    private final Row tape = new Row(TAPE_MOST);
    private final Row numbers = new Row(TELL_MOST);
    private int z = 1;

    private final Market keptMarket = new Market();
    private final Row keptTape = new Row(TAPE_MOST);
    private final Row keptNumbers = new Row(TELL_MOST);
    private int keptZ;
    private int images;

    private final Row bodies = new Row(TRACE_MOST);
    private final Sheet[] sheets = new Sheet[SHEETS];
    private final int[] errors = new int[KIND + 1];

    // Made once and used by every look ahead, since all calls of a run share one room.
    private final Market scratch = new Market();
    private final Market[] cutMarkets = new Market[CUTS_MOST];
    private final int[] cutRow = new int[CUTS_MOST];
    private final int[] bestRow = new int[CUTS_MOST];
    private int bestPurse;

    public FallingSlates() {
        for (int i = 0; i < SHEETS; i++) {
            sheets[i] = new Sheet();
        }
        for (int i = 0; i < CUTS_MOST; i++) {
            cutMarkets[i] = new Market();
        }
    }

    // ---- sellers, sorts

    public int seller(int kind, int m, int cm) {
        boolean fits = isWithin(kind, 0, KINDS - 1) && isWithin(m, 0, NUMBER_MOST)
                && isWithin(cm, 0, PRICE_MOST * 10 + DIGIT_MOST);
        if (!fits) {
            return error(BEYOND);
        }
        if (market.sellerCount >= SELLERS) {
            return error(FULL);
        }
        return market.addSeller(newSeller(market.sellerCount, kind, m, cm / 10, cm % 10));
    }

    public int ofSeller(int seller, int what) {
        if (!isSeller(seller) || !isWithin(what, 0, OF_SELLER - 1)) {
            return error(BEYOND);
        }
        return market.ofSellerNow(seller, what);
    }

    public int set(int seller, int what, int v) {
        if (!isSeller(seller) || !fitsSeller(what, v)) {
            return error(BEYOND);
        }
        int[] row = what == 0 ? market.stock : what == 1 ? market.purse : market.slate;
        int was = row[seller];
        row[seller] = v;
        return was;
    }

    public int as(int seller, int kind) {
        if (!isSeller(seller) || !isWithin(kind, 0, KINDS - 1)) {
            return error(BEYOND);
        }
        Seller one = market.sellers[seller];
        return isOfKind(one, kind) ? one.m : error(KIND);
    }

    public int may(int seller, int price) {
        if (!isSeller(seller) || !isWithin(price, 0, PRICE_MOST)) {
            return error(BEYOND);
        }
        return market.mayAsk(market.slate[seller], price) ? 1 : 0;
    }

    public int sort(int come, int worth, int stays) {
        if (!fitsSort(come, worth, stays)) {
            return error(BEYOND);
        }
        if (market.sortCount >= SORTS) {
            return error(FULL);
        }
        return market.addSort(come, worth, stays);
    }

    public int ofSort(int sort, int what) {
        if (!isSort(sort)) {
            return error(BEYOND);
        }
        switch (what) {
            case 0: return market.come[sort];
            case 1: return market.worth[sort];
            case 2: return market.stays[sort];
            case 3: return market.waiting[sort];
            case 4: return market.feels(sort);
            default: return error(BEYOND);
        }
    }

    public int sorts(int sheet) {
        if (!isSheet(sheet)) {
            return error(BEYOND);
        }
        Sheet from = sheets[sheet];
        if (from.isMissing()) {
            return error(NONE);
        }
        int[] row = from.numbers;
        int came = 0;
        for (int i = 0; i + 3 <= from.size && market.sortCount < SORTS; i += 3) {
            if (!fitsSort(row[i], row[i + 1], row[i + 2])) {
                break;
            }
            market.addSort(row[i], row[i + 1], row[i + 2]);
            came++;
        }
        return came;
    }

    public int now(int what, int v) {
        if (!fitsNow(what, v)) {
            return error(BEYOND);
        }
        int was;
        if (what == 0) {
            was = market.season;
            market.season = v;
        } else if (what <= SEASONS) {
            was = market.heat[what - 1];
            market.heat[what - 1] = v;
        } else {
            was = market.up;
            market.up = v;
        }
        return was;
    }

    // ---- texts, days

    public int feed(long word, int n) {
        if (!isWithin(n, 1, FEED_MOST)) {
            return error(BEYOND);
        }
        if (tape.size + n > TAPE_MOST) {
            return error(FULL);
        }
        for (int i = 0; i < n; i++) {
            tape.add((int) (word >>> (8 * i)) & 255);
        }
        return tape.size;
    }

    public int text(int use) {
        if (!isUse(use)) {
            return error(BEYOND);
        }
        Text read = new Text(tape, use);
        boolean whole = read.readWhole();
        tape.clear();
        if (!whole) {
            return -10 - read.at;
        }
        market.texts[use] = read;
        return 1;
    }

    public int law(int use, int a, int b, int c, int d) {
        if (!isUse(use)) {
            return error(BEYOND);
        }
        return market.gives(use, a, b, c, d);
    }

    public int days(int n) {
        if (!isWithin(n, 1, DAYS_MOST)) {
            return error(BEYOND);
        }
        if (market.today + n > DAY_LAST) {
            return error(STATE);
        }
        market.goBy(n);
        return market.today;
    }

    public int year(int n) {
        if (!isWithin(n, 1, DAYS_MOST)) {
            return error(BEYOND);
        }
        if (market.today + n > DAY_LAST) {
            return error(STATE);
        }
        for (int i = 0; i < n; i++) {
            z = z * 1103515245 + 12345;
            market.season = (z >>> 8) % SEASONS;
            market.goBy(1);
        }
        return market.season;
    }

    // ---- ahead

    public int then(int n, int seller, int what) {
        if (!isAhead(n) || !isSeller(seller) || !isWithin(what, 0, OF_SELLER - 1)) {
            return error(BEYOND);
        }
        return ahead(n).ofSellerNow(seller, what);
    }

    public int waits(int n, int sort) {
        if (!isAhead(n) || !isSort(sort)) {
            return error(BEYOND);
        }
        return ahead(n).waiting[sort];
    }

    public int earned(int n) {
        if (!isAhead(n)) {
            return error(BEYOND);
        }
        return ahead(n).allPurses();
    }

    public int lost(int n) {
        if (!isAhead(n)) {
            return error(BEYOND);
        }
        return ahead(n).takeLostPairs();
    }

    public int begin(int seller, int n) {
        if (!isSeller(seller) || !isWithin(n, 1, SPAN_MOST)) {
            return error(BEYOND);
        }
        int best = 0;
        int most = PURSE_BELOW_ALL;
        for (int price = 0; price <= PRICE_MOST; price += PRICE_STEP) {
            int purse = purseBeginning(seller, price, n);
            if (purse > most) {
                most = purse;
                best = price;
            }
        }
        return best;
    }

    public int right(int seller, int n) {
        if (!isSeller(seller) || !isAhead(n)) {
            return error(BEYOND);
        }
        int free = purseBeginning(seller, NOTHING, n);
        return free - ahead(n).purse[seller];
    }

    public int tenth(int n, int u) {
        if (!isAhead(n) || !isWithin(u, 0, PRICE_MOST)) {
            return error(BEYOND);
        }
        scratch.become(market);
        scratch.up = u;
        scratch.goBy(n);
        int other = scratch.allPurses();
        return other - ahead(n).allPurses();
    }

    public int gains(int n) {
        if (!isAhead(n)) {
            return error(BEYOND);
        }
        if (market.sellerCount == 0) {
            return error(NONE);
        }
        Market free = cutMarkets[0];
        free.become(market);
        free.isLawful = false;
        free.goBy(n);
        Market bound = ahead(n);
        int best = 0;
        for (int i = 1; i < market.sellerCount; i++) {
            if (free.purse[i] - bound.purse[i] > free.purse[best] - bound.purse[best]) {
                best = i;
            }
        }
        return best;
    }

    public int down(int seller, int n, int k, int i) {
        boolean fits = isSeller(seller) && isWithin(n, 1, SPAN_MOST)
                && isWithin(k, CUTS_LEAST, CUTS_MOST) && isWithin(i, -1, k - 1);
        if (!fits) {
            return error(BEYOND);
        }
        bestPurse = PURSE_BELOW_ALL;
        tryCuts(market, seller, n, k, 0);
        return i < 0 ? bestPurse : bestRow[i];
    }

    public int first(int sort) {
        if (!isSort(sort)) {
            return error(BEYOND);
        }
        int cheapest = market.cheapest();
        return cheapest < 0 ? error(NONE) : cheapest;
    }

    // ---- draws, voices, sheets, images, what is told

    public int seed(int v) {
        int was = z;
        z = v;
        return was;
    }

    public int voice(int seller, int act, int x) {
        if (!isSeller(seller) || !isWithin(act, 0, VOICES - 1)) {
            return error(BEYOND);
        }
        Seller one = market.sellers[seller];
        bodies.clear();
        switch (act) {
            case 0: return one.asks(x, bodies);
            case 1: return one.sells(x, bodies);
            case 2: return one.holds(x, bodies);
            default: return one.tells(x, bodies);
        }
    }

    public int trace(int i) {
        if (!isWithin(i, 0, bodies.size - 1)) {
            return error(NONE);
        }
        return bodies.numbers[i];
    }

    public int sheet(int sheet, int bits, int n) {
        if (!isSheet(sheet) || !isBits(bits)) {
            return error(BEYOND);
        }
        if (bits != 0 && n < 0) {
            return error(STATE);
        }
        if (bits != 0 && n > SHEET_MOST) {
            return error(BEYOND);
        }
        sheets[sheet].renew(bits, bits == 0 ? 0 : n);
        return 1;
    }

    public int put(int sheet, int i, int v) {
        if (!isSheet(sheet)) {
            return error(BEYOND);
        }
        Sheet to = sheets[sheet];
        if (to.isMissing()) {
            return error(NONE);
        }
        if (!isWithin(i, 0, to.size - 1)) {
            return error(BEYOND);
        }
        to.write(i, v);
        return 1;
    }

    public int move(int sheet, int i, int other, int j, int n) {
        if (!isSheet(sheet) || !isSheet(other)) {
            return error(BEYOND);
        }
        Sheet from = sheets[sheet];
        Sheet to = sheets[other];
        if (from.isMissing() || to.isMissing()) {
            return error(NONE);
        }
        if (from.bits != to.bits) {
            return error(KIND);
        }
        if (!from.holds(i, n) || !to.holds(j, n)) {
            return error(BEYOND);
        }
        System.arraycopy(from.numbers, i, to.numbers, j, n);
        return n;
    }

    public int image() {
        keptMarket.become(market);
        keptTape.become(tape);
        keptNumbers.become(numbers);
        keptZ = z;
        images++;
        return images;
    }

    public int restore() {
        if (images == 0) {
            return error(NONE);
        }
        market.become(keptMarket);
        tape.become(keptTape);
        numbers.become(keptNumbers);
        z = keptZ;
        return market.today;
    }

    public int tell(int v) {
        if (!numbers.add(v)) {
            return error(FULL);
        }
        return numbers.size;
    }

    public int check(int n) {
        if (!isAhead(n)) {
            numbers.clear();
            return error(BEYOND);
        }
        Market later = ahead(n);
        int unlike = numbers.firstUnlike(later.slate, later.sellerCount);
        numbers.clear();
        return 1 + unlike;
    }

    public int count(int what) {
        switch (what) {
            case 0: return market.today;
            case 1: return market.sellerCount;
            case 2: return market.sortCount;
            case 3: return market.season;
            case 4: return market.allWaiting();
            case 5: return tape.size;
            case 6: return numbers.size;
            case 7: return bodies.size;
            case 8: return z;
            default: return error(BEYOND);
        }
    }

    public int told(int k) {
        return isWithin(k, BEYOND, KIND) ? errors[k] : error(BEYOND);
    }

    // ---- what the acts share

    private int error(int which) {
        errors[which]++;
        return LOW - which;
    }

    private static boolean isWithin(int v, int least, int most) {
        return v >= least && v <= most;
    }

    private boolean isSeller(int seller) {
        return isWithin(seller, 0, market.sellerCount - 1);
    }

    private boolean isSort(int sort) {
        return isWithin(sort, 0, market.sortCount - 1);
    }

    private static boolean isSheet(int sheet) {
        return isWithin(sheet, 0, SHEETS - 1);
    }

    private static boolean isUse(int use) {
        return isWithin(use, 0, USES - 1);
    }

    private static boolean isAhead(int n) {
        return isWithin(n, 0, DAYS_MOST);
    }

    private static boolean isBits(int bits) {
        return bits == 0 || bits == 8 || bits == 16 || bits == 32;
    }

    private static boolean fitsSort(int come, int worth, int stays) {
        return isWithin(come, 0, DIGIT_MOST) && isWithin(worth, 0, PRICE_MOST) && isWithin(stays, 0, DIGIT_MOST);
    }

    private static boolean fitsSeller(int what, int v) {
        switch (what) {
            case 0: return isWithin(v, 0, STOCK_MOST);
            case 1: return isWithin(v, -PURSE_MOST, PURSE_MOST);
            case 2: return isWithin(v, NOTHING, PRICE_MOST);
            default: return false;
        }
    }

    private static boolean fitsNow(int what, int v) {
        switch (what) {
            case 0: return isWithin(v, 0, SEASONS - 1);
            case 1:
            case 2:
            case 3: return isWithin(v, 0, HEAT_MOST);
            case 4: return isWithin(v, 0, PRICE_MOST);
            default: return false;
        }
    }

    private static Seller newSeller(int number, int kind, int m, int cost, int makes) {
        switch (kind) {
            case 1: return new High(number, kind, m, cost, makes);
            case 2: return new Stepper(number, kind, m, cost, makes);
            case 3: return new Hurried(number, kind, m, cost, makes);
            case 4: return new Holder(number, kind, m, cost, makes);
            case 5: return new Stubborn(number, kind, m, cost, makes);
            case 6: return new Newly(number, kind, m, cost, makes);
            default: return new Seller(number, kind, m, cost, makes);
        }
    }

    private static boolean isOfKind(Seller one, int kind) {
        switch (kind) {
            case 1: return one instanceof High;
            case 2: return one instanceof Stepper;
            case 3: return one instanceof Hurried;
            case 4: return one instanceof Holder;
            case 5: return one instanceof Stubborn;
            case 6: return one instanceof Newly;
            default: return true;
        }
    }

    private Market ahead(int n) {
        scratch.become(market);
        scratch.goBy(n);
        return scratch;
    }

    private int purseBeginning(int seller, int price, int n) {
        scratch.become(market);
        scratch.slate[seller] = price;
        scratch.goBy(n);
        return scratch.purse[seller];
    }

    // Rows that begin alike share the days of that beginning; the cuts come in rising order,
    // so a later row must be strictly better to take the place of the first.
    private void tryCuts(Market from, int seller, int n, int k, int level) {
        if (level >= k || level >= CUTS_MOST) {
            if (from.purse[seller] > bestPurse) {
                bestPurse = from.purse[seller];
                System.arraycopy(cutRow, 0, bestRow, 0, CUTS_MOST);
            }
            return;
        }
        Market next = cutMarkets[level];
        for (int cut : CUTS) {
            cutRow[level] = cut;
            next.become(from);
            next.cutSlate(seller, cut);
            next.goBy(n);
            tryCuts(next, seller, n, k, level + 1);
        }
    }

    /** Numbers in the order in which they came, so many at most. */
    private static final class Row {
        final int[] numbers;
        int size;

        Row(int most) {
            numbers = new int[most];
        }

        boolean add(int v) {
            if (size >= numbers.length) {
                return false;
            }
            numbers[size] = v;
            size++;
            return true;
        }

        void clear() {
            size = 0;
        }

        /** The place of the first number that isn't as in the other row, or is missing in one of both; -1: none. */
        int firstUnlike(int[] other, int otherSize) {
            int both = Math.min(size, Math.min(otherSize, other.length));
            for (int i = 0; i < both; i++) {
                if (numbers[i] != other[i]) {
                    return i;
                }
            }
            return size == otherSize ? -1 : both;
        }

        void become(Row other) {
            int n = Math.min(other.size, numbers.length);
            System.arraycopy(other.numbers, 0, numbers, 0, n);
            size = n;
        }
    }

    /** A row of 8, 16 or 32 bits, read back as Java's byte, short and int would be; 0 bits: it is missing. */
    private static final class Sheet {
        final int[] numbers = new int[SHEET_MOST];
        int bits;
        int size;

        boolean isMissing() {
            return bits == 0;
        }

        void renew(int newBits, int newSize) {
            bits = newBits;
            size = newSize;
            Arrays.fill(numbers, 0);
        }

        void write(int i, int v) {
            numbers[i] = bits == 8 ? (byte) v : bits == 16 ? (short) v : v;
        }

        // Asked by what is left of the size, since from + n might go round.
        boolean holds(int from, int n) {
            return from >= 0 && n >= 0 && n <= size && from <= size - n;
        }
    }

    /** What of a seller never changes, and how its kind asks and speaks; kinds below take over what is theirs. */
    private static class Seller {
        static final int ASKED_FIRST = 500;

        final int number;
        final int kind;
        final int m;
        final int cost;
        final int makes;

        Seller(int number, int kind, int m, int cost, int makes) {
            this.number = number;
            this.kind = kind;
            this.m = m;
            this.cost = cost;
            this.makes = makes;
        }

        /** What it would ask, ahead of being held within the prices. */
        int wishes(int slate, int stock) {
            return slate < 0 ? ASKED_FIRST : slate;
        }

        boolean wipes(int slate, int stock) {
            return false;
        }

        int asks(int x, Row trace) {
            trace.add(10);
            return x + number;
        }

        int sells(int x, Row trace) {
            trace.add(11);
            return asks(x, trace) * 2;
        }

        int holds(int x, Row trace) {
            trace.add(12);
            return x - m;
        }

        int tells(int x, Row trace) {
            trace.add(13);
            return sells(x, trace) ^ holds(x, trace);
        }
    }

    private static class High extends Seller {
        static final int HIGH_FIRST = 900;

        High(int number, int kind, int m, int cost, int makes) {
            super(number, kind, m, cost, makes);
        }

        int wishes(int slate, int stock) {
            return slate < 0 ? HIGH_FIRST : slate - m;
        }

        int sells(int x, Row trace) {
            trace.add(20);
            return super.sells(x, trace) - holds(1, trace);
        }
    }

    private static class Stepper extends Seller {
        Stepper(int number, int kind, int m, int cost, int makes) {
            super(number, kind, m, cost, makes);
        }

        int wishes(int slate, int stock) {
            return super.wishes(slate, stock) - m;
        }

        int asks(int x, Row trace) {
            trace.add(30);
            return super.asks(x, trace) * 3;
        }
    }

    private static final class Hurried extends Stepper {
        static final int MUCH = 20;

        Hurried(int number, int kind, int m, int cost, int makes) {
            super(number, kind, m, cost, makes);
        }

        int wishes(int slate, int stock) {
            int steps = super.wishes(slate, stock);
            return stock >= MUCH ? steps - m : steps;
        }

        int holds(int x, Row trace) {
            trace.add(40);
            return -super.holds(x, trace);
        }

        int asks(int x, Row trace) {
            trace.add(41);
            return super.asks(x + 1, trace);
        }
    }

    private static class Holder extends Seller {
        static final int TOO_MUCH = 60;

        Holder(int number, int kind, int m, int cost, int makes) {
            super(number, kind, m, cost, makes);
        }

        int wishes(int slate, int stock) {
            int stays = super.wishes(slate, stock);
            return stock >= TOO_MUCH ? stays - m : stays;
        }

        int tells(int x, Row trace) {
            trace.add(50);
            return super.tells(x, trace) - asks(2, trace);
        }
    }

    private static final class Stubborn extends Holder {
        Stubborn(int number, int kind, int m, int cost, int makes) {
            super(number, kind, m, cost, makes);
        }

        int wishes(int slate, int stock) {
            return Math.max(super.wishes(slate, stock), cost);
        }

        int holds(int x, Row trace) {
            trace.add(60);
            return super.holds(x, trace) ^ number;
        }
    }

    private static final class Newly extends High {
        Newly(int number, int kind, int m, int cost, int makes) {
            super(number, kind, m, cost, makes);
        }

        int wishes(int slate, int stock) {
            return wipes(slate, stock) ? HIGH_FIRST : super.wishes(slate, stock);
        }

        boolean wipes(int slate, int stock) {
            return super.wishes(slate, stock) < cost;
        }

        int sells(int x, Row trace) {
            trace.add(70);
            return super.sells(x, trace) + m;
        }

        int tells(int x, Row trace) {
            trace.add(71);
            return sells(x, trace) - super.tells(x, trace);
        }
    }

    /** Sellers, sorts, law and day: all that a day that goes by reads or changes. */
    private static final class Market {
        static final int HEAT_FIRST = 10;

        int today;
        int season;
        int up;
        boolean isLawful = true;
        final int[] heat = {HEAT_FIRST, HEAT_FIRST, HEAT_FIRST};
        final Text[] texts = new Text[USES];

        // Sellers themselves never change, so markets share them; what changes of them stands in rows.
        final Seller[] sellers = new Seller[SELLERS];
        int sellerCount;
        final int[] stock = new int[SELLERS];
        final int[] purse = new int[SELLERS];
        final int[] slate = new int[SELLERS];
        final int[] ranked = new int[SELLERS];

        int sortCount;
        final int[] come = new int[SORTS];
        final int[] worth = new int[SORTS];
        final int[] stays = new int[SORTS];
        final int[] waiting = new int[SORTS];

        void become(Market other) {
            today = other.today;
            season = other.season;
            up = other.up;
            isLawful = other.isLawful;
            System.arraycopy(other.heat, 0, heat, 0, SEASONS);
            for (int i = 0; i < USES; i++) {
                texts[i] = other.texts[i];
            }
            sellerCount = other.sellerCount;
            for (int i = 0; i < sellerCount; i++) {
                sellers[i] = other.sellers[i];
                stock[i] = other.stock[i];
                purse[i] = other.purse[i];
                slate[i] = other.slate[i];
            }
            sortCount = other.sortCount;
            for (int i = 0; i < sortCount; i++) {
                come[i] = other.come[i];
                worth[i] = other.worth[i];
                stays[i] = other.stays[i];
                waiting[i] = other.waiting[i];
            }
        }

        int addSeller(Seller one) {
            int i = sellerCount;
            sellers[i] = one;
            stock[i] = 0;
            purse[i] = 0;
            slate[i] = NOTHING;
            sellerCount++;
            return i;
        }

        int addSort(int comes, int isWorth, int stay) {
            int i = sortCount;
            come[i] = comes;
            worth[i] = isWorth;
            stays[i] = stay;
            waiting[i] = 0;
            sortCount++;
            return i;
        }

        int ofSellerNow(int i, int what) {
            Seller one = sellers[i];
            switch (what) {
                case 0: return one.kind;
                case 1: return one.m;
                case 2: return one.cost;
                case 3: return one.makes;
                case 4: return stock[i];
                case 5: return purse[i];
                case 6: return slate[i];
                case 7: return heldPrice(one.wishes(slate[i], stock[i]));
                default: return wouldAsk(i);
            }
        }

        int feels(int i) {
            return worth[i] * heat[season] / 10;
        }

        int gives(int use, int a, int b, int c, int d) {
            Text own = texts[use];
            if (own != null) {
                return own.gives(a, b, c, d);
            }
            int most = use == 0 ? b + d : b;
            return a > most ? 0 : 1;
        }

        boolean mayAsk(int onSlate, int price) {
            return onSlate < 0 || !isLawful || gives(0, price, onSlate, today, up) != 0;
        }

        int wouldAsk(int i) {
            Seller one = sellers[i];
            int onSlate = one.wipes(slate[i], stock[i]) ? NOTHING : slate[i];
            int price = heldPrice(one.wishes(slate[i], stock[i]));
            return mayAsk(onSlate, price) ? price : onSlate;
        }

        void cutSlate(int i, int cut) {
            if (slate[i] >= 0) {
                slate[i] = Math.max(slate[i] - cut, 0);
            }
        }

        void goBy(int days) {
            for (int i = 0; i < days; i++) {
                askAll();
                rankByPrice();
                for (int s = 0; s < sortCount; s++) {
                    serve(s);
                }
                today++;
            }
        }

        private void askAll() {
            for (int i = 0; i < sellerCount; i++) {
                Seller one = sellers[i];
                stock[i] = Math.min(stock[i] + one.makes, STOCK_MOST);
                purse[i] = heldPurse(purse[i] - one.cost * one.makes);
                slate[i] = wouldAsk(i);
            }
        }

        // Slates stay as they are while the sorts buy, so one order is enough for all of them.
        private void rankByPrice() {
            for (int i = 0; i < sellerCount; i++) {
                int at = i;
                while (at > 0 && slate[ranked[at - 1]] > slate[i]) {
                    ranked[at] = ranked[at - 1];
                    at--;
                }
                ranked[at] = i;
            }
        }

        private void serve(int s) {
            int there = waiting[s] + come[s];
            int felt = feels(s);
            for (int r = 0; r < sellerCount && there > 0; r++) {
                int i = ranked[r];
                if (stock[i] > 0 && gives(1, slate[i], felt, stays[s], today) != 0) {
                    int bought = Math.min(there, stock[i]);
                    stock[i] -= bought;
                    purse[i] = heldPurse(purse[i] + bought * slate[i]);
                    there -= bought;
                }
            }
            waiting[s] = stays[s] == 0 ? 0 : Math.min(there, WAITING_MOST);
        }

        int cheapest() {
            int best = NOTHING;
            for (int i = 0; i < sellerCount; i++) {
                if (stock[i] > 0 && slate[i] >= 0 && (best < 0 || slate[i] < slate[best])) {
                    best = i;
                }
            }
            return best;
        }

        int allPurses() {
            int sum = 0;
            for (int i = 0; i < sellerCount; i++) {
                sum += purse[i];
            }
            return sum;
        }

        int allWaiting() {
            int sum = 0;
            for (int i = 0; i < sortCount; i++) {
                sum += waiting[i];
            }
            return sum;
        }

        /** Takes each pair's thing out of the stock so that none is paired twice: for a scratch market alone. */
        int takeLostPairs() {
            int pairs = 0;
            for (int s = 0; s < sortCount; s++) {
                int left = waiting[s];
                int felt = feels(s);
                for (int i = 0; i < sellerCount; i++) {
                    if (sellers[i].cost <= felt) {
                        int paired = Math.min(left, stock[i]);
                        stock[i] -= paired;
                        left -= paired;
                        pairs += paired;
                    }
                }
            }
            return pairs;
        }

        private static int heldPrice(int price) {
            return Math.max(0, Math.min(price, PRICE_MOST));
        }

        private static int heldPurse(int purse) {
            return Math.max(-PURSE_MOST, Math.min(purse, PURSE_MOST));
        }
    }

    /** A text read once into steps that each join values worked out ahead of it. */
    private static final class Text {
        static final String LAW_NAMES = "patu";
        static final String BUYS_NAMES = "pfst";
        static final int NAMES = 4;
        static final int OPEN_MOST = 5;
        static final int DIGITS_MOST = 4;
        static final int LEVELS = 5;
        static final int COMPARED = 2;
        static final int NUMBER = 0;
        static final int UNREAD = -1;
        static final int END = -1;

        final Row source;
        final int length;
        final String names;
        int at;

        // Places 0 to 3 hold the names' values; each step takes a byte at least, so the rows never end too early.
        final int[] sign;
        final int[] left;
        final int[] next;
        final int[] value;
        int size = NAMES;
        int root = UNREAD;

        Text(Row tape, int use) {
            source = tape;
            length = tape.size;
            names = use == 0 ? LAW_NAMES : BUYS_NAMES;
            sign = new int[NAMES + length];
            left = new int[NAMES + length];
            next = new int[NAMES + length];
            value = new int[NAMES + length];
        }

        /** Whether all of the tape is a text; if not, the fault is where reading stopped. */
        boolean readWhole() {
            root = readLevel(0, 0);
            return root >= 0 && at == length;
        }

        int gives(int a, int b, int c, int d) {
            value[0] = a;
            value[1] = b;
            value[2] = c;
            value[3] = d;
            for (int i = NAMES; i < size; i++) {
                int x = value[left[i]];
                int y = value[next[i]];
                switch (sign[i]) {
                    case '|': value[i] = x != 0 || y != 0 ? 1 : 0; break;
                    case '&': value[i] = x != 0 && y != 0 ? 1 : 0; break;
                    case '<': value[i] = x < y ? 1 : 0; break;
                    case '=': value[i] = x == y ? 1 : 0; break;
                    case '>': value[i] = x > y ? 1 : 0; break;
                    case '+': value[i] = x + y; break;
                    case '-': value[i] = x - y; break;
                    case '*': value[i] = x * y; break;
                    case '/': value[i] = y == 0 ? 0 : x / y; break;
                    case '%': value[i] = y == 0 ? 0 : x % y; break;
                    case '!': value[i] = x == 0 ? 1 : 0; break;
                    default: break;
                }
            }
            return root < 0 ? 0 : value[root];
        }

        private int peek() {
            return at < length && at < source.size ? source.numbers[at] : END;
        }

        private static boolean isDigit(int b) {
            return b >= '0' && b <= '9';
        }

        private static int levelOf(int b) {
            switch (b) {
                case '|': return 0;
                case '&': return 1;
                case '<':
                case '=':
                case '>': return COMPARED;
                case '+':
                case '-': return 3;
                case '*':
                case '/':
                case '%': return 4;
                default: return LEVELS;
            }
        }

        private int addStep(int stepSign, int x, int y) {
            if (size >= sign.length) {
                return UNREAD;
            }
            sign[size] = stepSign;
            left[size] = x;
            next[size] = y;
            size++;
            return size - 1;
        }

        private int readLevel(int level, int open) {
            if (level >= LEVELS) {
                return readSingle(open);
            }
            int x = readLevel(level + 1, open);
            int joins = level == COMPARED ? 1 : length;
            for (int i = 0; i < joins && x >= 0 && levelOf(peek()) == level; i++) {
                int joinedBy = peek();
                at++;
                int y = readLevel(level + 1, open);
                x = y < 0 ? UNREAD : addStep(joinedBy, x, y);
            }
            return x;
        }

        private int readSingle(int open) {
            int b = peek();
            if (b == '!' || b == '(') {
                return open >= OPEN_MOST ? UNREAD : readOpened(b, open + 1);
            }
            if (isDigit(b)) {
                return readNumber();
            }
            int name = b < 0 ? UNREAD : names.indexOf((char) b);
            if (name >= 0) {
                at++;
            }
            return name;
        }

        private int readOpened(int opener, int open) {
            at++;
            if (opener == '!') {
                int x = readSingle(open);
                return x < 0 ? UNREAD : addStep('!', x, x);
            }
            int inner = readLevel(0, open);
            if (inner < 0 || peek() != ')') {
                return UNREAD;
            }
            at++;
            return inner;
        }

        private int readNumber() {
            int v = 0;
            for (int i = 0; i < DIGITS_MOST && isDigit(peek()); i++) {
                v = v * 10 + peek() - '0';
                at++;
            }
            int step = addStep(NUMBER, 0, 0);
            if (step >= 0) {
                value[step] = v;
            }
            return step;
        }
    }
}
