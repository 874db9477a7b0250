import java.util.ArrayList;
import java.util.Arrays;
import java.util.HashSet;
import java.util.List;
import java.util.Map;
import java.util.NoSuchElementException;
import java.util.Set;
import java.util.TreeMap;
import java.util.TreeSet;

/** The document once more, written slowly and otherwise than the class: ModelTest compares the two. */
public final class Model {
    private static final long ALL = 1_000_000_000L;

    /** What a person knows. */
    private record Sight(int worth, int purse, int last, int mean, int card, int sign, int keeper, int glass, int least) {
    }

    private interface Expr {
        int of(Sight s);
    }

    private record Sort(int odds, int worth, int purse, Expr gives) {
    }

    private record Setting(int card, int keeper, int glass, int least) {
        static Setting of(int n) {
            return new Setting(n % 11 - 1, (n % 44) / 22, (n % 22) / 11, n / 44);
        }
    }

    private static final class Fault extends RuntimeException {
        private static final long serialVersionUID = 1L;
        final int kind;
        final int place;

        Fault(int kind, int place) {
            this.kind = kind;
            this.place = place;
        }
    }

    private static final class Rules {
        final List<Sort> sorts = new ArrayList<>();
        int sight = 1;
        int chance = 0;
        int bound = 100;
        Setting setting = new Setting(-1, 0, 0, 0);

        int all() {
            return sorts.stream().mapToInt(Sort::odds).sum();
        }

        int states() {
            return (int) Math.pow(10, sight);
        }

        int next(int state, int gift) {
            return (state * 10 + gift) % states();
        }

        int gives(Setting t, int sort, int state, int spent) {
            Sort s = sorts.get(sort);
            int purse = Math.max(0, s.purse() - spent);
            boolean sees = t.glass() == 1 && sight > 0;
            int sum = 0;
            int rest = state;
            for (int i = 0; i < sight; i++) {
                sum += rest % 10;
                rest /= 10;
            }
            Sight seen = new Sight(s.worth(), purse, sees ? state % 10 : 0, sees ? sum / sight : 0,
                    Math.max(0, t.card()), t.card() < 0 ? 0 : 1, t.keeper(), t.glass(), t.least());
            int gift = Math.min(purse, Math.max(0, s.gives().of(seen)));
            if (gift >= t.least()) {
                return gift;
            }
            return s.worth() < t.least() || purse < t.least() ? -1 : t.least();
        }

        Run run(Setting t, int seed, int n) {
            Run run = new Run();
            run.cases.put(seed, ALL);
            for (int k = 0; k < n && !sorts.isEmpty(); k++) {
                TreeMap<Integer, Long> then = new TreeMap<>();
                for (Map.Entry<Integer, Long> e : run.cases.entrySet()) {
                    long left = e.getValue();
                    for (int i = 0; i < sorts.size(); i++) {
                        long part = i == sorts.size() - 1 ? left : sorts.get(i).odds() * e.getValue() / all();
                        left -= part;
                        int gift = gives(t, i, e.getKey(), 0);
                        run.given += part * Math.max(0, gift);
                        run.away += gift < 0 ? part : 0;
                        then.merge(gift < 0 ? e.getKey() : next(e.getKey(), gift), part, Long::sum);
                    }
                }
                run.cases = then;
            }
            return run;
        }
    }

    private static final class Run {
        TreeMap<Integer, Long> cases = new TreeMap<>();
        long given;
        long away;

        int coin() {
            return (int) (given / 1_000_000);
        }
    }

    private static final class Book {
        int seed;
        int now;
        int box;
        int stolen;
        List<Integer> gifts = new ArrayList<>();
        int[][] guesses = new int[4][8];

        Book copy() {
            Book b = new Book();
            b.seed = seed;
            b.now = now;
            b.box = box;
            b.stolen = stolen;
            b.gifts = new ArrayList<>(gifts);
            for (int i = 0; i < 4; i++) {
                b.guesses[i] = guesses[i].clone();
            }
            return b;
        }
    }

    private record Token(char kind, String text, int place) {
        int number() {
            return text.length() > 3 ? 1000 : Integer.parseInt(text);
        }
    }

    private static final class Parser {
        final List<Token> tokens = new ArrayList<>();
        final Rules rules = new Rules();
        final Set<String> told = new HashSet<>();
        int i = 0;

        Parser(String text) {
            int p = 0;
            while (p < text.length()) {
                char c = text.charAt(p);
                int q = p + 1;
                if (c == 32 || c == 10) {
                    p = q;
                    continue;
                }
                char kind = "();+-*/<=".indexOf(c) >= 0 ? c : '?';
                String row = c >= 'a' && c <= 'z' ? "[a-z]" : c >= '0' && c <= '9' ? "[0-9]" : null;
                if (row != null) {
                    kind = row.charAt(1);
                    while (q < text.length() && text.substring(q, q + 1).matches(row)) {
                        q++;
                    }
                }
                tokens.add(new Token(kind, text.substring(p, q), p));
                p = q;
            }
            tokens.add(new Token('$', "", text.length()));
        }

        Token peek() {
            return tokens.get(i);
        }

        boolean is(String text) {
            return peek().text().equals(text);
        }

        Fault fault(int kind) {
            return new Fault(kind, peek().place());
        }

        Token take(boolean right) {
            if (!right) {
                throw fault(1);
            }
            return tokens.get(i++);
        }

        int number(int low, int high) {
            if (peek().kind() != '0') {
                throw fault(1);
            }
            int n = peek().number();
            if (n < low || n > high) {
                throw fault(2);
            }
            i++;
            return n;
        }

        Rules parse() {
            while (peek().kind() != '$') {
                clause();
                take(is(";"));
            }
            return rules;
        }

        void clause() {
            Setting t = rules.setting;
            String word = peek().text();
            if (word.equals("sort")) {
                if (rules.sorts.size() == 8) {
                    throw fault(2);
                }
                i++;
                int odds = number(1, 99);
                take(is("worth"));
                int worth = number(0, 99);
                take(is("purse"));
                int purse = number(0, 9);
                take(is("gives"));
                rules.sorts.add(new Sort(odds, worth, purse, expr(0)));
                return;
            }
            if (!List.of("sight", "card", "keeper", "glass", "least", "thief").contains(word)) {
                throw fault(1);
            }
            if (!told.add(word)) {
                throw fault(4);
            }
            i++;
            switch (word) {
                case "sight" -> rules.sight = number(0, 2);
                case "card" -> rules.setting = new Setting(number(0, 9), t.keeper(), t.glass(), t.least());
                case "keeper" -> rules.setting = new Setting(t.card(), 1, t.glass(), t.least());
                case "glass" -> rules.setting = new Setting(t.card(), t.keeper(), 1, t.least());
                case "least" -> rules.setting = new Setting(t.card(), t.keeper(), t.glass(), number(0, 9));
                default -> {
                    rules.chance = number(0, 100);
                    rules.bound = number(1, 999);
                }
            }
        }

        Expr expr(int within) {
            if (within == 6 && "a0(".indexOf(peek().kind()) >= 0) {
                throw fault(2);
            }
            Expr a = and(within);
            while (is("or")) {
                i++;
                Expr l = a;
                Expr r = and(within);
                a = s -> l.of(s) != 0 | r.of(s) != 0 ? 1 : 0;
            }
            return a;
        }

        Expr and(int within) {
            Expr a = not(within, 0);
            while (is("and")) {
                i++;
                Expr l = a;
                Expr r = not(within, 0);
                a = s -> l.of(s) != 0 & r.of(s) != 0 ? 1 : 0;
            }
            return a;
        }

        Expr not(int within, int nots) {
            if (is("not")) {
                if (nots == 6) {
                    throw fault(2);
                }
                i++;
                Expr a = not(within, nots + 1);
                return s -> a.of(s) == 0 ? 1 : 0;
            }
            Expr l = sum(within);
            if (is("<")) {
                i++;
                Expr r = sum(within);
                return s -> l.of(s) < r.of(s) ? 1 : 0;
            }
            if (is("=")) {
                i++;
                Expr r = sum(within);
                return s -> l.of(s) == r.of(s) ? 1 : 0;
            }
            return l;
        }

        Expr sum(int within) {
            Expr a = product(within);
            while (is("+") || is("-")) {
                int by = is("+") ? 1 : -1;
                i++;
                Expr l = a;
                Expr r = product(within);
                a = s -> (int) ((long) l.of(s) + (long) by * r.of(s));
            }
            return a;
        }

        Expr product(int within) {
            Expr a = part(within);
            while (is("*") || is("/")) {
                boolean times = is("*");
                i++;
                Expr l = a;
                Expr r = part(within);
                a = s -> times ? (int) ((long) l.of(s) * r.of(s)) : r.of(s) == 0 ? 0 : (int) ((long) l.of(s) / r.of(s));
            }
            return a;
        }

        Expr part(int within) {
            Token t = peek();
            switch (t.kind()) {
                case '0':
                    int n = number(0, 999);
                    return s -> n;
                case '(':
                    i++;
                    Expr a = expr(within + 1);
                    take(is(")"));
                    return a;
                case 'a':
                    Expr v = value(t.text());
                    if (v == null) {
                        throw fault(3);
                    }
                    i++;
                    return v;
                default:
                    throw fault(1);
            }
        }

        static Expr value(String word) {
            return switch (word) {
                case "worth" -> Sight::worth;
                case "purse" -> Sight::purse;
                case "last" -> Sight::last;
                case "mean" -> Sight::mean;
                case "card" -> Sight::card;
                case "sign" -> Sight::sign;
                case "keeper" -> Sight::keeper;
                case "glass" -> Sight::glass;
                case "least" -> Sight::least;
                default -> null;
            };
        }
    }

    private final StringBuilder tape = new StringBuilder();
    private final Rules[] rules = {new Rules(), new Rules()};
    private Book[] books = {new Book(), new Book()};
    private int[] status = new int[3];
    private Book[] keptBooks = null;
    private int[] keptStatus = null;
    private int place = -1;

    private static int known(int n, int size) {
        if (n < 0 || n >= size) {
            throw new NoSuchElementException();
        }
        return n;
    }

    private static void range(int n, int low, int high) {
        if (n < low || n > high) {
            throw new IllegalArgumentException();
        }
    }

    public int feed(int a, int b, int c, int d, int e) {
        if (tape.length() > 680) {
            return -1;
        }
        for (int n : new int[] {a, b, c, d, e}) {
            for (byte x : java.nio.ByteBuffer.allocate(4).putInt(n).array()) {
                tape.append((char) (x & 255));
            }
        }
        return tape.length();
    }

    public int gate(int gate, int n) {
        known(gate, 2);
        range(n, 0, tape.length());
        String text = tape.substring(0, n);
        tape.setLength(0);
        try {
            rules[gate] = new Parser(text).parse();
        } catch (Fault f) {
            place = f.place;
            status[0]++;
            return f.kind;
        }
        place = -1;
        books[gate] = new Book();
        keptBooks = null;
        return 0;
    }

    public int fault() {
        return place;
    }

    public int count(int what) {
        return known(what, 4) == 0 ? tape.length() : status[what - 1];
    }

    public int about(int gate, int what) {
        Rules r = rules[known(gate, 2)];
        Book b = books[gate];
        int[] all = {r.sorts.size(), r.sight, r.setting.card(), r.setting.keeper(), r.setting.glass(), r.setting.least(),
            r.chance, r.bound, r.all(), b.seed, b.gifts.size(), b.box, b.stolen, b.now};
        return all[known(what, 14)];
    }

    public int sort(int gate, int sort, int what) {
        Rules r = rules[known(gate, 2)];
        Sort s = r.sorts.get(known(sort, r.sorts.size()));
        return new int[] {s.odds(), s.worth(), s.purse()}[known(what, 3)];
    }

    public int gives(int gate, int sort, int state) {
        Rules r = rules[known(gate, 2)];
        return r.gives(r.setting, known(sort, r.sorts.size()), known(state, r.states()), 0);
    }

    public int next(int gate, int state, int gift) {
        Rules r = rules[known(gate, 2)];
        return r.next(known(state, r.states()), known(gift, 10));
    }

    public void seed(int gate, int state) {
        known(state, rules[known(gate, 2)].states());
        books[gate].seed = state;
        books[gate].now = state;
        books[gate].gifts.clear();
    }

    public boolean set(int gate, int setting) {
        rules[known(gate, 2)].setting = Setting.of(known(setting, 176));
        return true;
    }

    private Run run(int gate, int n) {
        return rules[gate].run(rules[gate].setting, books[gate].seed, n);
    }

    public int coin(int gate, int n, int what) {
        known(gate, 2);
        known(what, 2);
        range(n, 0, 400);
        return what == 0 ? run(gate, n).coin() : (int) (run(gate, n).away / 1_000_000);
    }

    public int cases(int gate, int n, int state) {
        known(state, rules[known(gate, 2)].states());
        range(n, 0, 400);
        return (int) (long) run(gate, n).cases.getOrDefault(state, 0L);
    }

    public int drift(int gate, int k) {
        known(gate, 2);
        range(k, 1, 400);
        return (int) ((run(gate, k).given - run(gate, k - 1).given) / 1_000_000);
    }

    public int turn(int gate, int bound) {
        known(gate, 2);
        for (int k = 1; k <= 400; k++) {
            if (drift(gate, k) < bound) {
                return k;
            }
        }
        return -1;
    }

    private Set<Integer> from(Rules r, int state) {
        Set<Integer> seen = new TreeSet<>(Set.of(state));
        List<Integer> open = new ArrayList<>(seen);
        while (!open.isEmpty()) {
            int at = open.remove(open.size() - 1);
            for (int i = 0; i < r.sorts.size(); i++) {
                int gift = r.gives(r.setting, i, at, 0);
                int next = gift < 0 ? at : r.next(at, gift);
                if (seen.add(next)) {
                    open.add(next);
                }
            }
        }
        return seen;
    }

    public int rest(int gate, int i, int what) {
        Rules r = rules[known(gate, 2)];
        known(what, 3);
        TreeMap<Integer, Set<Integer>> rests = new TreeMap<>();
        for (int state : from(r, books[gate].seed)) {
            Set<Integer> own = from(r, state);
            if (own.stream().allMatch(s -> from(r, s).contains(state))) {
                rests.put(own.iterator().next(), own);
            }
        }
        if (i == -1) {
            return rests.size();
        }
        int least = new ArrayList<>(rests.keySet()).get(known(i, rests.size()));
        return what == 0 ? least : what == 1 ? rests.get(least).size()
                : (r.run(r.setting, least, 400).coin() - r.run(r.setting, least, 200).coin()) / 200;
    }

    public int best(int gate, int n, int bound, int what) {
        Rules r = rules[known(gate, 2)];
        known(what, 2);
        range(n, 0, 60);
        int best = -1;
        int most = -1;
        for (int s = 175; s >= 0; s--) {
            Run run = r.run(Setting.of(s), books[gate].seed, n);
            if (run.away / 1_000_000 <= bound && run.coin() >= most) {
                best = s;
                most = run.coin();
            }
        }
        return what == 0 ? best : most;
    }

    public int would(int gate, int setting, int n) {
        Rules r = rules[known(gate, 2)];
        known(setting, 176);
        range(n, 0, 60);
        return r.run(Setting.of(setting), books[gate].seed, n).coin();
    }

    public int card(int gate, int n) {
        Rules r = rules[known(gate, 2)];
        range(n, 0, 60);
        int best = 0;
        int most = -1;
        for (int c = 10; c >= 0; c--) {
            Setting t = new Setting(c - 1, r.setting.keeper(), r.setting.glass(), r.setting.least());
            int coin = r.run(t, books[gate].seed, n).coin();
            best = coin >= most ? c : best;
            most = Math.max(most, coin);
        }
        return best;
    }

    public int seeded(int gate, int n) {
        Rules r = rules[known(gate, 2)];
        range(n, 0, 60);
        int best = 0;
        int most = -1;
        for (int s = r.states() - 1; s >= 0; s--) {
            int coin = r.run(r.setting, s, n).coin();
            best = coin >= most ? s : best;
            most = Math.max(most, coin);
        }
        return best;
    }

    public int price(int gate, int price, int what) {
        Rules r = rules[known(gate, 2)];
        known(price, 10);
        known(what, 3);
        int some = 0;
        for (int i = 0; i < r.sorts.size(); i++) {
            Sort s = r.sorts.get(i);
            boolean pays = Math.min(s.worth(), s.purse()) >= price;
            int gift = r.gives(r.setting, i, books[gate].seed, 0);
            boolean counts = what == 0 ? pays : what == 2 ? !pays : gift >= 0 && (!pays || gift < price);
            some += counts ? s.odds() : 0;
        }
        return r.all() == 0 ? 0 : 1000 * some * (what == 0 ? price : 1) / r.all();
    }

    public int priced(int gate) {
        int best = 0;
        for (int p = 9; p >= 0; p--) {
            best = price(gate, p, 0) >= price(gate, best, 0) ? p : best;
        }
        return best;
    }

    public int mixed(int gate, int n, int each, int price) {
        Rules r = rules[known(gate, 2)];
        range(n, 0, 400);
        range(each, 2, 50);
        range(price, 0, 9);
        long paying = r.sorts.stream().filter(s -> Math.min(s.worth(), s.purse()) >= price).mapToInt(Sort::odds).sum();
        long given = 0;
        int free = 0;
        for (int k = 1; k <= n; k++) {
            if (k % each != 0) {
                free++;
            } else if (paying > 0) {
                given += ALL * paying / r.all() * price;
            }
        }
        return (int) ((given + run(gate, free).given) / 1_000_000);
    }

    public int near(int n, int what) {
        known(what, 3);
        range(n, 0, 60);
        long[] sums = new long[3];
        TreeMap<Integer, Long> cases = new TreeMap<>(Map.of(books[0].seed * 1000 + books[1].seed, ALL));
        for (int k = 0; k < n && !rules[0].sorts.isEmpty(); k++) {
            TreeMap<Integer, Long> then = new TreeMap<>();
            for (Map.Entry<Integer, Long> e : cases.entrySet()) {
                long left = e.getValue();
                for (int i = 0; i < rules[0].sorts.size(); i++) {
                    boolean last = i == rules[0].sorts.size() - 1;
                    long part = last ? left : rules[0].sorts.get(i).odds() * e.getValue() / rules[0].all();
                    left -= part;
                    int a = e.getKey() / 1000;
                    int b = e.getKey() % 1000;
                    int gift = rules[0].gives(rules[0].setting, i, a, 0);
                    a = gift < 0 ? a : rules[0].next(a, gift);
                    sums[0] += part * Math.max(gift, 0);
                    if (i < rules[1].sorts.size()) {
                        int then1 = rules[1].gives(rules[1].setting, i, b, Math.max(gift, 0));
                        b = then1 < 0 ? b : rules[1].next(b, then1);
                        sums[1] += part * Math.max(then1, 0);
                        sums[2] += then1 < 0 ? part : 0;
                    }
                    then.merge(a * 1000 + b, part, Long::sum);
                }
            }
            cases = then;
        }
        return (int) (sums[what] / 1_000_000);
    }

    public int give(int gate, int gift) {
        Book b = books[known(gate, 2)];
        if (gift < 0 || gift > 9 || b.gifts.size() == 200) {
            status[1]++;
            return -1;
        }
        b.gifts.add(gift);
        b.now = rules[gate].next(b.now, gift);
        return b.gifts.size();
    }

    private int[] aheadAndMask(int gate, int i) {
        Rules r = rules[gate];
        int state = books[gate].seed;
        for (int k = 0; k < i; k++) {
            state = r.next(state, books[gate].gifts.get(k));
        }
        int mask = 0;
        for (int s = 0; s < r.sorts.size(); s++) {
            mask += r.gives(r.setting, s, state, 0) == books[gate].gifts.get(i) ? 1 << s : 0;
        }
        return new int[] {state, mask};
    }

    private int[] masks(int gate) {
        int[] masks = new int[books[gate].gifts.size()];
        Arrays.setAll(masks, i -> aheadAndMask(gate, i)[1]);
        return masks;
    }

    public int given(int gate, int i, int what) {
        Book b = books[known(gate, 2)];
        known(i, b.gifts.size());
        known(what, 3);
        return what == 0 ? b.gifts.get(i) : aheadAndMask(gate, i)[what - 1];
    }

    public int who(int gate, int sort, int what) {
        known(sort, rules[known(gate, 2)].sorts.size());
        known(what, 2);
        int bit = 1 << sort;
        return (int) Arrays.stream(masks(gate)).filter(m -> what == 0 ? m == bit : (m & bit) != 0).count();
    }

    public int strange(int gate) {
        known(gate, 2);
        return (int) Arrays.stream(masks(gate)).filter(m -> m == 0).count();
    }

    public int fewest(int gate) {
        known(gate, 2);
        int[] masks = masks(gate);
        int best = -1;
        for (int bits = 0; bits < 256; bits++) {
            int tried = bits;
            boolean all = Arrays.stream(masks).allMatch(m -> m == 0 || (m & tried) != 0);
            if (all && (best < 0 || Integer.bitCount(bits) < Integer.bitCount(best))) {
                best = bits;
            }
        }
        return best;
    }

    public boolean guess(int gate, int guess, int sort, int odds) {
        known(guess, 4);
        known(sort, rules[known(gate, 2)].sorts.size());
        if (odds < 0 || odds > 99) {
            status[2]++;
            return false;
        }
        books[gate].guesses[guess][sort] = odds;
        return true;
    }

    public int credit(int gate, int guess) {
        Book b = books[known(gate, 2)];
        known(guess, 4);
        List<Integer> told = new ArrayList<>();
        for (int i = 0; i < 4; i++) {
            if (Arrays.stream(b.guesses[i]).sum() > 0) {
                told.add(i);
            }
        }
        if (!told.contains(guess)) {
            return -1;
        }
        long[] credit = new long[4];
        told.forEach(i -> credit[i] = 1_000_000 / told.size());
        for (int mask : masks(gate)) {
            for (int i : told) {
                long odds = 0;
                for (int s = 0; s < 8; s++) {
                    odds += (mask & 1 << s) != 0 ? b.guesses[i][s] : 0;
                }
                credit[i] *= Math.max(1, 1000 * odds / Arrays.stream(b.guesses[i]).sum());
            }
            long sum = Arrays.stream(credit).sum();
            told.forEach(i -> credit[i] = credit[i] * 1_000_000 / sum);
        }
        return (int) credit[guess];
    }

    public int drawn(int gate, int persons, int seed) {
        Rules r = rules[known(gate, 2)];
        Book b = books[gate];
        range(persons, 1, 400);
        range(r.sorts.size(), 1, 8);
        int sum = 0;
        for (int k = 1; k <= persons; k++) {
            seed = (int) (seed * 1103515245L + 12345);
            int draw = (seed >> 16 & 0x7fff) % r.all();
            int s = 0;
            while (draw >= r.sorts.get(s).odds()) {
                draw -= r.sorts.get(s).odds();
                s++;
            }
            int gift = r.gives(r.setting, s, b.now, 0);
            if (gift >= 0) {
                b.box += gift;
                sum += gift;
                b.now = r.next(b.now, gift);
                if (b.gifts.size() < 200) {
                    b.gifts.add(gift);
                }
            }
            if (k % 10 == 0 && b.box >= r.bound) {
                seed = (int) (seed * 1103515245L + 12345);
                if ((seed >> 16 & 0x7fff) % 100 < r.chance) {
                    b.stolen += b.box;
                    b.box = 0;
                }
            }
        }
        return sum;
    }

    public int empty(int gate) {
        Book b = books[known(gate, 2)];
        int box = b.box;
        b.box = 0;
        return box;
    }

    public void image() {
        keptBooks = new Book[] {books[0].copy(), books[1].copy()};
        keptStatus = status.clone();
    }

    public boolean restore() {
        if (keptBooks == null) {
            return false;
        }
        books = new Book[] {keptBooks[0].copy(), keptBooks[1].copy()};
        status = keptStatus.clone();
        return true;
    }
}
