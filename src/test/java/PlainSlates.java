import java.util.ArrayList;
import java.util.Arrays;
import java.util.Comparator;
import java.util.List;

/** The document once more, as slowly and as literally as can be: what RandomRunsTest holds the class against. */
final class PlainSlates {
    static final int LOW = -1000000000;
    static final int BEYOND = LOW - 1;
    static final int NONE = LOW - 2;
    static final int STATE = LOW - 3;
    static final int FULL = LOW - 4;
    static final int KIND = LOW - 5;

    static final class Seller {
        int number, kind, m, cost, makes, stock, purse;
        Integer slate;

        Seller copy() {
            Seller s = new Seller();
            s.number = number;
            s.kind = kind;
            s.m = m;
            s.cost = cost;
            s.makes = makes;
            s.stock = stock;
            s.purse = purse;
            s.slate = slate;
            return s;
        }
    }

    static final class Sort {
        int come, worth, stays, waiting;

        Sort copy() {
            Sort s = new Sort();
            s.come = come;
            s.worth = worth;
            s.stays = stays;
            s.waiting = waiting;
            return s;
        }
    }

    static final class World {
        int today, season, up, z = 1;
        boolean noLaw;
        int[] heat = {10, 10, 10};
        List<Seller> sellers = new ArrayList<>();
        List<Sort> sorts = new ArrayList<>();
        String tape = "";
        String[] texts = {"!(p>a+u)", "!(p>f)"};
        List<Integer> numbers = new ArrayList<>();

        World copy() {
            World w = new World();
            w.today = today;
            w.season = season;
            w.up = up;
            w.z = z;
            w.noLaw = noLaw;
            w.heat = heat.clone();
            for (Seller s : sellers) w.sellers.add(s.copy());
            for (Sort s : sorts) w.sorts.add(s.copy());
            w.tape = tape;
            w.texts = texts.clone();
            w.numbers = new ArrayList<>(numbers);
            return w;
        }

        int feels(Sort s) {
            return s.worth * heat[season] / 10;
        }

        int raw(Seller s, int kind) {
            switch (kind) {
                case 0: return s.slate == null ? 500 : s.slate;
                case 1: return s.slate == null ? 900 : s.slate - s.m;
                case 2: return raw(s, 0) - s.m;
                case 3: return raw(s, 2) - (s.stock >= 20 ? s.m : 0);
                case 4: return raw(s, 0) - (s.stock >= 60 ? s.m : 0);
                case 5: return Math.max(raw(s, 4), s.cost);
                default: return raw(s, 1) < s.cost ? 900 : raw(s, 1);
            }
        }

        int would(Seller s) {
            return Math.min(999, Math.max(0, raw(s, s.kind)));
        }

        boolean may(Seller s, int price) {
            if (s.slate == null || noLaw) return true;
            return value(texts[0], "patu", new int[] {price, s.slate, today, up}) != 0;
        }

        int asksNow(Seller s) {
            Seller t = s.copy();
            int price = would(s);
            if (t.kind == 6 && raw(t, 1) < t.cost) t.slate = null;
            return may(t, price) ? price : t.slate;
        }

        static int held(long purse) {
            return (int) Math.min(99999999L, Math.max(-99999999L, purse));
        }

        void day() {
            for (Seller s : sellers) {
                s.stock = Math.min(99, s.stock + s.makes);
                s.purse = held((long) s.purse - s.cost * s.makes);
                s.slate = asksNow(s);
            }
            for (Sort sort : sorts) {
                int there = sort.waiting + sort.come;
                List<Seller> open = new ArrayList<>();
                for (Seller s : sellers) if (s.stock > 0) open.add(s);
                open.sort(Comparator.comparingInt((Seller s) -> s.slate).thenComparingInt(s -> s.number));
                for (Seller s : open) {
                    int[] named = {s.slate, feels(sort), sort.stays, today};
                    if (value(texts[1], "pfst", named) == 0) continue;
                    while (there > 0 && s.stock > 0) {
                        there--;
                        s.stock--;
                        s.purse = held((long) s.purse + s.slate);
                    }
                }
                sort.waiting = sort.stays == 0 ? 0 : Math.min(99, there);
            }
            today++;
        }

        World ahead(int n) {
            World w = copy();
            for (int i = 0; i < n; i++) w.day();
            return w;
        }

        int earned() {
            int sum = 0;
            for (Seller s : sellers) sum += s.purse;
            return sum;
        }
    }

    World w = new World();
    World kept;
    int images;
    int[] errors = new int[6];
    List<Integer> bodies = new ArrayList<>();
    int[] bits = new int[4];
    int[][] sheets = new int[4][];

    int err(int e) {
        errors[LOW - e]++;
        return e;
    }

    static boolean in(int v, int a, int b) {
        return v >= a && v <= b;
    }

    boolean noSeller(int i) {
        return !in(i, 0, w.sellers.size() - 1);
    }

    boolean noSort(int i) {
        return !in(i, 0, w.sorts.size() - 1);
    }

    int seller(int kind, int m, int cm) {
        if (!in(kind, 0, 6) || !in(m, 0, 99) || !in(cm, 0, 9999)) return err(BEYOND);
        if (w.sellers.size() == 6) return err(FULL);
        Seller s = new Seller();
        s.number = w.sellers.size();
        s.kind = kind;
        s.m = m;
        s.cost = cm / 10;
        s.makes = cm % 10;
        w.sellers.add(s);
        return s.number;
    }

    static int of(World w, int seller, int what) {
        Seller s = w.sellers.get(seller);
        int slate = s.slate == null ? -1 : s.slate;
        int[] all = {s.kind, s.m, s.cost, s.makes, s.stock, s.purse, slate, w.would(s), w.asksNow(s)};
        return all[what];
    }

    int ofSeller(int seller, int what) {
        if (noSeller(seller) || !in(what, 0, 8)) return err(BEYOND);
        return of(w, seller, what);
    }

    int set(int seller, int what, int v) {
        if (noSeller(seller) || !in(what, 0, 2)) return err(BEYOND);
        int was = of(w, seller, what + 4);
        Seller s = w.sellers.get(seller);
        if (what == 0) {
            if (!in(v, 0, 99)) return err(BEYOND);
            s.stock = v;
        } else if (what == 1) {
            if (!in(v, -99999999, 99999999)) return err(BEYOND);
            s.purse = v;
        } else {
            if (!in(v, -1, 999)) return err(BEYOND);
            s.slate = v == -1 ? null : v;
        }
        return was;
    }

    static int above(int kind) {
        return new int[] {-1, 0, 0, 2, 0, 4, 1}[kind];
    }

    int as(int seller, int kind) {
        if (noSeller(seller) || !in(kind, 0, 6)) return err(BEYOND);
        Seller s = w.sellers.get(seller);
        for (int k = s.kind; k >= 0; k = above(k)) if (k == kind) return s.m;
        return err(KIND);
    }

    int may(int seller, int price) {
        if (noSeller(seller) || !in(price, 0, 999)) return err(BEYOND);
        return w.may(w.sellers.get(seller), price) ? 1 : 0;
    }

    boolean isSortLike(int come, int worth, int stays) {
        return in(come, 0, 9) && in(worth, 0, 999) && in(stays, 0, 9);
    }

    int sort(int come, int worth, int stays) {
        if (!isSortLike(come, worth, stays)) return err(BEYOND);
        if (w.sorts.size() == 8) return err(FULL);
        Sort s = new Sort();
        s.come = come;
        s.worth = worth;
        s.stays = stays;
        w.sorts.add(s);
        return w.sorts.size() - 1;
    }

    int ofSort(int sort, int what) {
        if (noSort(sort) || !in(what, 0, 4)) return err(BEYOND);
        Sort s = w.sorts.get(sort);
        return new int[] {s.come, s.worth, s.stays, s.waiting, w.feels(s)}[what];
    }

    int sorts(int sheet) {
        if (!in(sheet, 0, 3)) return err(BEYOND);
        int[] row = sheets[sheet];
        if (row == null) return err(NONE);
        int came = 0;
        while (true) {
            int i = 3 * came;
            if (i + 2 >= row.length || w.sorts.size() == 8 || !isSortLike(row[i], row[i + 1], row[i + 2])) return came;
            sort(row[i], row[i + 1], row[i + 2]);
            came++;
        }
    }

    int now(int what, int v) {
        if (!in(what, 0, 4) || !in(v, 0, new int[] {2, 40, 40, 40, 999}[what])) return err(BEYOND);
        int was;
        if (what == 0) {
            was = w.season;
            w.season = v;
        } else if (what == 4) {
            was = w.up;
            w.up = v;
        } else {
            was = w.heat[what - 1];
            w.heat[what - 1] = v;
        }
        return was;
    }

    int feed(long word, int n) {
        if (!in(n, 1, 8)) return err(BEYOND);
        if (w.tape.length() + n > 50) return err(FULL);
        for (int i = 0; i < n; i++) {
            w.tape += (char) (word & 255);
            word >>= 8;
        }
        return w.tape.length();
    }

    int text(int use) {
        if (!in(use, 0, 1)) return err(BEYOND);
        String t = w.tape;
        w.tape = "";
        int fault = fault(t, use == 0 ? "patu" : "pfst");
        if (fault >= 0) return -10 - fault;
        w.texts[use] = t;
        return 1;
    }

    /** Byte by byte, with what is open on a stack, where the class goes down by levels. */
    static int fault(String t, String names) {
        List<Character> open = new ArrayList<>();
        List<Boolean> compared = new ArrayList<>(List.of(false));
        boolean wants = true;
        int digits = 0;
        for (int i = 0; i < t.length(); i++) {
            char c = t.charAt(i);
            boolean digit = c >= '0' && c <= '9';
            if (digit && digits > 0 && digits < 4) {
                digits++;
                continue;
            }
            digits = 0;
            int last = compared.size() - 1;
            if (wants) {
                if (c == '!' || c == '(') {
                    if (open.size() == 5) return i;
                    open.add(c);
                    if (c == '(') compared.add(false);
                } else if (digit || names.indexOf(c) >= 0) {
                    digits = digit ? 1 : 0;
                    wants = false;
                    closeNots(open);
                } else {
                    return i;
                }
            } else if (c == ')') {
                if (!open.contains('(')) return i;
                open.remove(open.size() - 1);
                compared.remove(last);
                closeNots(open);
            } else if (c == '|' || c == '&') {
                compared.set(last, false);
                wants = true;
            } else if (c == '<' || c == '=' || c == '>') {
                if (compared.get(last)) return i;
                compared.set(last, true);
                wants = true;
            } else if (c == '+' || c == '-' || c == '*' || c == '/' || c == '%') {
                wants = true;
            } else {
                return i;
            }
        }
        return wants || !open.isEmpty() ? t.length() : -1;
    }

    private static void closeNots(List<Character> open) {
        while (!open.isEmpty() && open.get(open.size() - 1) == '!') open.remove(open.size() - 1);
    }

    /** A text is cut at the last sign outside brackets that binds least. */
    static int value(String t, String names, int[] named) {
        for (String signs : new String[] {"|", "&", "<=>", "+-", "*/%"}) {
            int depth = 0;
            for (int i = t.length() - 1; i >= 0; i--) {
                char c = t.charAt(i);
                if (c == ')') depth++;
                if (c == '(') depth--;
                if (depth == 0 && signs.indexOf(c) >= 0) {
                    int x = value(t.substring(0, i), names, named);
                    int y = value(t.substring(i + 1), names, named);
                    return joined(c, x, y);
                }
            }
        }
        char c = t.charAt(0);
        if (c == '!') return value(t.substring(1), names, named) == 0 ? 1 : 0;
        if (c == '(') return value(t.substring(1, t.length() - 1), names, named);
        if (names.indexOf(c) >= 0) return named[names.indexOf(c)];
        return Integer.parseInt(t);
    }

    static int joined(char c, int x, int y) {
        switch (c) {
            case '|': return (x != 0) | (y != 0) ? 1 : 0;
            case '&': return (x != 0) & (y != 0) ? 1 : 0;
            case '<': return x < y ? 1 : 0;
            case '=': return x == y ? 1 : 0;
            case '>': return x > y ? 1 : 0;
            case '+': return x + y;
            case '-': return x - y;
            case '*': return (int) ((long) x * y);
            case '/': return y == 0 ? 0 : (int) ((long) x / y);
            default: return y == 0 ? 0 : (int) ((long) x % y);
        }
    }

    int law(int use, int a, int b, int c, int d) {
        if (!in(use, 0, 1)) return err(BEYOND);
        return value(w.texts[use], use == 0 ? "patu" : "pfst", new int[] {a, b, c, d});
    }

    int days(int n) {
        if (!in(n, 1, 60)) return err(BEYOND);
        if (w.today + n > 399) return err(STATE);
        for (int i = 0; i < n; i++) w.day();
        return w.today;
    }

    int year(int n) {
        if (!in(n, 1, 60)) return err(BEYOND);
        if (w.today + n > 399) return err(STATE);
        for (int i = 0; i < n; i++) {
            w.z = (int) (w.z * 1103515245L + 12345L);
            w.season = (int) (((w.z & 0xffffffffL) >> 8) % 3);
            w.day();
        }
        return w.season;
    }

    int then(int n, int seller, int what) {
        if (!in(n, 0, 60) || noSeller(seller) || !in(what, 0, 8)) return err(BEYOND);
        return of(w.ahead(n), seller, what);
    }

    int waits(int n, int sort) {
        if (!in(n, 0, 60) || noSort(sort)) return err(BEYOND);
        return w.ahead(n).sorts.get(sort).waiting;
    }

    int earned(int n) {
        if (!in(n, 0, 60)) return err(BEYOND);
        return w.ahead(n).earned();
    }

    int lost(int n) {
        if (!in(n, 0, 60)) return err(BEYOND);
        World v = w.ahead(n);
        int pairs = 0;
        for (Sort sort : v.sorts) {
            for (int one = 0; one < sort.waiting; one++) {
                for (Seller s : v.sellers) {
                    if (s.stock > 0 && s.cost <= v.feels(sort)) {
                        s.stock--;
                        pairs++;
                        break;
                    }
                }
            }
        }
        return pairs;
    }

    int begin(int seller, int n) {
        if (noSeller(seller) || !in(n, 1, 9)) return err(BEYOND);
        int best = -1;
        long most = Long.MIN_VALUE;
        for (int price = 0; price <= 990; price += 10) {
            World v = w.copy();
            v.sellers.get(seller).slate = price;
            int purse = v.ahead(n).sellers.get(seller).purse;
            if (purse > most) {
                most = purse;
                best = price;
            }
        }
        return best;
    }

    int right(int seller, int n) {
        if (noSeller(seller) || !in(n, 0, 60)) return err(BEYOND);
        World v = w.copy();
        v.sellers.get(seller).slate = null;
        return v.ahead(n).sellers.get(seller).purse - w.ahead(n).sellers.get(seller).purse;
    }

    int tenth(int n, int u) {
        if (!in(n, 0, 60) || !in(u, 0, 999)) return err(BEYOND);
        World v = w.copy();
        v.up = u;
        return v.ahead(n).earned() - w.ahead(n).earned();
    }

    int gains(int n) {
        if (!in(n, 0, 60)) return err(BEYOND);
        if (w.sellers.isEmpty()) return err(NONE);
        World v = w.copy();
        v.noLaw = true;
        World free = v.ahead(n);
        World bound = w.ahead(n);
        int best = -1;
        long most = Long.MIN_VALUE;
        for (int i = 0; i < w.sellers.size(); i++) {
            int more = free.sellers.get(i).purse - bound.sellers.get(i).purse;
            if (more > most) {
                most = more;
                best = i;
            }
        }
        return best;
    }

    int down(int seller, int n, int k, int i) {
        if (noSeller(seller) || !in(n, 1, 9) || !in(k, 2, 3) || !in(i, -1, k - 1)) return err(BEYOND);
        int[] cuts = {0, 10, 20, 50, 100};
        int[] best = null;
        long most = Long.MIN_VALUE;
        int rows = k == 2 ? 25 : 125;
        for (int r = 0; r < rows; r++) {
            int[] row = k == 2 ? new int[] {cuts[r / 5], cuts[r % 5]}
                : new int[] {cuts[r / 25], cuts[r / 5 % 5], cuts[r % 5]};
            World v = w.copy();
            for (int cut : row) {
                Seller s = v.sellers.get(seller);
                if (s.slate != null) s.slate = Math.max(0, s.slate - cut);
                v = v.ahead(n);
            }
            int purse = v.sellers.get(seller).purse;
            if (purse > most) {
                most = purse;
                best = row;
            }
        }
        return i < 0 ? (int) most : best[i];
    }

    int first(int sort) {
        if (noSort(sort)) return err(BEYOND);
        Seller best = null;
        for (Seller s : w.sellers) {
            if (s.stock == 0 || s.slate == null) continue;
            if (best == null || s.slate < best.slate) best = s;
        }
        return best == null ? err(NONE) : best.number;
    }

    int seed(int v) {
        int was = w.z;
        w.z = v;
        return was;
    }

    /** The bodies' table: {kind, act, body}. */
    static final int[][] BODIES = {{0, 0, 10}, {0, 1, 11}, {0, 2, 12}, {0, 3, 13}, {1, 1, 20}, {2, 0, 30}, {3, 2, 40},
        {3, 0, 41}, {4, 3, 50}, {5, 2, 60}, {6, 1, 70}, {6, 3, 71}};

    int speak(Seller s, int fromKind, int act, int x) {
        for (int k = fromKind; k >= 0; k = above(k)) {
            for (int[] row : BODIES) {
                if (row[0] == k && row[1] == act) return body(s, k, row[2], x);
            }
        }
        throw new IllegalStateException();
    }

    int body(Seller s, int k, int number, int x) {
        if (bodies.size() < 40) bodies.add(number);
        int up = above(k);
        int y;
        switch (number) {
            case 10: return x + s.number;
            case 11: return speak(s, s.kind, 0, x) * 2;
            case 12: return x - s.m;
            case 13:
                y = speak(s, s.kind, 1, x);
                return y ^ speak(s, s.kind, 2, x);
            case 20:
                y = speak(s, up, 1, x);
                return y - speak(s, s.kind, 2, 1);
            case 30: return speak(s, up, 0, x) * 3;
            case 40: return -speak(s, up, 2, x);
            case 41: return speak(s, up, 0, x + 1);
            case 50:
                y = speak(s, up, 3, x);
                return y - speak(s, s.kind, 0, 2);
            case 60: return speak(s, up, 2, x) ^ s.number;
            case 70: return speak(s, up, 1, x) + s.m;
            default:
                y = speak(s, s.kind, 1, x);
                return y - speak(s, up, 3, x);
        }
    }

    int voice(int seller, int act, int x) {
        if (noSeller(seller) || !in(act, 0, 3)) return err(BEYOND);
        bodies.clear();
        Seller s = w.sellers.get(seller);
        return speak(s, s.kind, act, x);
    }

    int trace(int i) {
        if (!in(i, 0, bodies.size() - 1)) return err(NONE);
        return bodies.get(i);
    }

    int sheet(int sheet, int b, int n) {
        if (!in(sheet, 0, 3)) return err(BEYOND);
        if (b == 0) {
            sheets[sheet] = null;
            return 1;
        }
        if (b != 8 && b != 16 && b != 32) return err(BEYOND);
        if (n < 0) return err(STATE);
        if (n > 40) return err(BEYOND);
        sheets[sheet] = new int[n];
        bits[sheet] = b;
        return 1;
    }

    int put(int sheet, int i, int v) {
        if (!in(sheet, 0, 3)) return err(BEYOND);
        if (sheets[sheet] == null) return err(NONE);
        if (!in(i, 0, sheets[sheet].length - 1)) return err(BEYOND);
        int off = 32 - bits[sheet];
        sheets[sheet][i] = v << off >> off;
        return 1;
    }

    int move(int sheet, int i, int other, int j, int n) {
        if (!in(sheet, 0, 3) || !in(other, 0, 3)) return err(BEYOND);
        if (sheets[sheet] == null || sheets[other] == null) return err(NONE);
        if (bits[sheet] != bits[other]) return err(KIND);
        if (n < 0 || i < 0 || j < 0) return err(BEYOND);
        if ((long) i + n > sheets[sheet].length || (long) j + n > sheets[other].length) return err(BEYOND);
        int[] were = Arrays.copyOfRange(sheets[sheet], i, i + n);
        for (int k = 0; k < n; k++) sheets[other][j + k] = were[k];
        return n;
    }

    int image() {
        kept = w.copy();
        return ++images;
    }

    int restore() {
        if (kept == null) return err(NONE);
        w = kept.copy();
        return w.today;
    }

    int tell(int v) {
        if (w.numbers.size() == 20) return err(FULL);
        w.numbers.add(v);
        return w.numbers.size();
    }

    int check(int n) {
        List<Integer> told = w.numbers;
        w.numbers = new ArrayList<>();
        if (!in(n, 0, 60)) return err(BEYOND);
        List<Integer> slates = new ArrayList<>();
        for (Seller s : w.ahead(n).sellers) slates.add(s.slate == null ? -1 : s.slate);
        if (slates.equals(told)) return 0;
        int i = 0;
        while (i < told.size() && i < slates.size() && told.get(i).equals(slates.get(i))) i++;
        return 1 + i;
    }

    int count(int what) {
        int waiting = 0;
        for (Sort s : w.sorts) waiting += s.waiting;
        if (!in(what, 0, 8)) return err(BEYOND);
        return new int[] {w.today, w.sellers.size(), w.sorts.size(), w.season, waiting, w.tape.length(),
            w.numbers.size(), bodies.size(), w.z}[what];
    }

    int told(int k) {
        if (!in(k, 1, 5)) return err(BEYOND);
        return errors[k];
    }
}
