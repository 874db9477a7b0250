import java.util.Arrays;
import java.util.NoSuchElementException;

/** Gates with a box by them and no price, and the people of sorts who give there as much as they like. */
public final class GateBox {
    public static final int NONE = -1;

    private static final int MOST_BYTES = 700;
    private static final int MOST_SORTS = 8;
    private static final int MOST_STATES = 100;
    private static final int MOST_GIFT = 9;
    private static final int MOST_BOOK = 200;
    private static final int MOST_PERSONS = 400;
    private static final int MOST_TRIED = 60;
    private static final int GUESSES = 4;
    private static final int SETTINGS = 176;
    private static final int CARDS = 11;
    private static final int ALL_CASES = 1000000000;
    private static final int MILLION = 1000000;

    // What the words of an EXPR ask for, in the order of a Giver's values.
    private static final int WORTH = 0;
    private static final int PURSE = 1;
    private static final int LAST = 2;
    private static final int MEAN = 3;
    private static final int CARD = 4;
    private static final int SIGN = 5;
    private static final int KEEPER = 6;
    private static final int GLASS = 7;
    private static final int LEAST = 8;
    private static final int VALUES = 9;

    // Steps of an EXPR: a number below 1000 is itself, then the values, then the signs.
    private static final int VALUE_STEP = 1000;
    private static final int SIGN_STEP = 2000;
    private static final int NOT_STEP = SIGN_STEP + '!';
    private static final int AND_STEP = SIGN_STEP + '&';
    private static final int OR_STEP = SIGN_STEP + '|';

    private final Reader reader = new Reader();
    private final Gate left = new Gate();
    private final Gate right = new Gate();
    private final int[] status = new int[3];
    private final int[] keptStatus = new int[3];
    private boolean hasImage = false;
    private int faultPlace = NONE;

    private final Giver giver = new Giver(left.rules, new int[MOST_SORTS * MOST_STATES]);
    private final Walk walk = new Walk(giver);
    private final Couples couples = new Couples(giver, left.rules);
    private final Rests rests = new Rests(giver);
    private final Clues clues = new Clues(giver);
    private final Setting trial = new Setting();
    private int bestSetting = NONE;
    private int bestCoin = NONE;

    public GateBox() {
    }

    public int feed(int a, int b, int c, int d, int e) {
        if (reader.fed + 20 > MOST_BYTES) {
            return NONE;
        }
        reader.take(a);
        reader.take(b);
        reader.take(c);
        reader.take(d);
        reader.take(e);
        return reader.fed;
    }

    public int gate(int gate, int n) throws NoSuchElementException, IllegalArgumentException {
        Gate told = gateOf(gate);
        askRange(n, 0, reader.fed);
        int fault = reader.read(n);
        faultPlace = fault == 0 ? NONE : reader.place;
        if (fault != 0) {
            refused(0);
            return fault;
        }
        Rules old = told.rules;
        told.rules = reader.rules;
        reader.rules = old;
        told.book.clear();
        hasImage = false;
        return 0;
    }

    public int fault() {
        return faultPlace;
    }

    public int count(int what) throws NoSuchElementException {
        askKnown(what, 3);
        return what == 0 ? reader.fed : at(status, what - 1);
    }

    public int about(int gate, int what) throws NoSuchElementException {
        Gate asked = gateOf(gate);
        askKnown(what, 13);
        return what < 9 ? asked.rules.told(what) : asked.book.told(what);
    }

    public int sort(int gate, int sort, int what) throws NoSuchElementException {
        Rules rules = gateOf(gate).rules;
        askKnown(sort, rules.sorts - 1);
        askKnown(what, 2);
        return at(what == 0 ? rules.odds : what == 1 ? rules.worth : rules.purse, sort);
    }

    public int gives(int gate, int sort, int state) throws NoSuchElementException {
        Rules rules = gateOf(gate).rules;
        askKnown(sort, rules.sorts - 1);
        askKnown(state, rules.states() - 1);
        giver.begin(rules, rules.setting);
        return giver.giftAt(sort, state, 0);
    }

    public int next(int gate, int state, int gift) throws NoSuchElementException {
        Rules rules = gateOf(gate).rules;
        askKnown(state, rules.states() - 1);
        askKnown(gift, MOST_GIFT);
        return rules.stateBehind(state, gift);
    }

    public void seed(int gate, int state) throws NoSuchElementException {
        Gate told = gateOf(gate);
        askKnown(state, told.rules.states() - 1);
        told.book.beginAt(state);
    }

    public boolean set(int gate, int setting) throws NoSuchElementException {
        Rules rules = gateOf(gate).rules;
        askKnown(setting, SETTINGS - 1);
        rules.setting.become(setting);
        return true;
    }

    public int coin(int gate, int n, int what) throws NoSuchElementException, IllegalArgumentException {
        Gate asked = gateOf(gate);
        askKnown(what, 1);
        askRange(n, 0, MOST_PERSONS);
        walkAlong(asked, n);
        return what == 0 ? walk.thousandthsGiven() : walk.thousandthsAway();
    }

    public int cases(int gate, int n, int state) throws NoSuchElementException, IllegalArgumentException {
        Gate asked = gateOf(gate);
        askKnown(state, asked.rules.states() - 1);
        askRange(n, 0, MOST_PERSONS);
        walkAlong(asked, n);
        return walk.now.amountOf(state);
    }

    public int drift(int gate, int k) throws NoSuchElementException, IllegalArgumentException {
        Gate asked = gateOf(gate);
        askRange(k, 1, MOST_PERSONS);
        walkAlong(asked, k - 1);
        return walk.driftOfOneMore();
    }

    public int turn(int gate, int bound) throws NoSuchElementException {
        walkAlong(gateOf(gate), 0);
        for (int k = 1; k <= MOST_PERSONS; k++) {
            if (walk.driftOfOneMore() < bound) {
                return k;
            }
        }
        return NONE;
    }

    public int rest(int gate, int i, int what) throws NoSuchElementException {
        Gate asked = gateOf(gate);
        askKnown(what, 2);
        giver.begin(asked.rules, asked.rules.setting);
        rests.find(asked.book.seed);
        if (i == NONE) {
            return rests.howMany();
        }
        int least = rests.leastOf(i);
        if (least == NONE) {
            throw new NoSuchElementException("no such rest");
        }
        return what == 0 ? least : what == 1 ? rests.sizeFrom(least) : meanFrom(least);
    }

    public int best(int gate, int n, int bound, int what) throws NoSuchElementException, IllegalArgumentException {
        Gate asked = gateOf(gate);
        askKnown(what, 1);
        askRange(n, 0, MOST_TRIED);
        searchSettings(asked, n, bound);
        return what == 0 ? bestSetting : bestCoin;
    }

    public int would(int gate, int setting, int n) throws NoSuchElementException, IllegalArgumentException {
        Gate asked = gateOf(gate);
        askKnown(setting, SETTINGS - 1);
        askRange(n, 0, MOST_TRIED);
        trial.become(setting);
        giver.begin(asked.rules, trial);
        walk.begin(asked.book.seed);
        walk.go(n);
        return walk.thousandthsGiven();
    }

    public int card(int gate, int n) throws NoSuchElementException, IllegalArgumentException {
        Gate asked = gateOf(gate);
        askRange(n, 0, MOST_TRIED);
        int best = 0;
        int most = NONE;
        trial.becomeLike(asked.rules.setting);
        for (int card = 0; card < CARDS; card++) {
            trial.card = card - 1;
            if (asked.rules.lesserCardIsLike(trial)) {
                continue;
            }
            giver.begin(asked.rules, trial);
            walk.begin(asked.book.seed);
            walk.go(n);
            if (walk.thousandthsGiven() > most) {
                most = walk.thousandthsGiven();
                best = card;
            }
        }
        return best;
    }

    public int seeded(int gate, int n) throws NoSuchElementException, IllegalArgumentException {
        Gate asked = gateOf(gate);
        askRange(n, 0, MOST_TRIED);
        int best = 0;
        int most = NONE;
        giver.begin(asked.rules, asked.rules.setting);
        for (int state = 0; state < asked.rules.states(); state++) {
            walk.begin(state);
            walk.go(n);
            if (walk.thousandthsGiven() > most) {
                most = walk.thousandthsGiven();
                best = state;
            }
        }
        return best;
    }

    public int price(int gate, int price, int what) throws NoSuchElementException {
        Gate asked = gateOf(gate);
        askKnown(price, MOST_GIFT);
        askKnown(what, 2);
        Rules rules = asked.rules;
        if (what == 0) {
            return rules.takenAt(price);
        }
        return rules.thousandths(what == 1 ? soonerOdds(asked, price) : rules.allOdds - rules.payingOdds(price));
    }

    public int priced(int gate) throws NoSuchElementException {
        Rules rules = gateOf(gate).rules;
        int best = 0;
        for (int price = 1; price <= MOST_GIFT; price++) {
            if (rules.takenAt(price) > rules.takenAt(best)) {
                best = price;
            }
        }
        return best;
    }

    public int mixed(int gate, int n, int each, int price) throws NoSuchElementException, IllegalArgumentException {
        Gate asked = gateOf(gate);
        askRange(n, 0, MOST_PERSONS);
        askRange(each, 2, 50);
        askRange(price, 0, MOST_GIFT);
        int asks = each > 0 ? n / each : 0;
        walkAlong(asked, n - asks);
        return (int) ((walk.given + asks * asked.rules.partsAt(price)) / MILLION);
    }

    public int near(int n, int what) throws NoSuchElementException, IllegalArgumentException {
        askKnown(what, 2);
        askRange(n, 0, MOST_TRIED);
        giver.begin(left.rules, left.rules.setting);
        couples.begin(right.rules, left.book.seed, right.book.seed);
        couples.go(n);
        long billionths = what == 0 ? couples.givenFirst : what == 1 ? couples.givenSecond : couples.away;
        return (int) (billionths / MILLION);
    }

    public int give(int gate, int gift) throws NoSuchElementException {
        Gate told = gateOf(gate);
        if (gift < 0 || gift > MOST_GIFT || told.book.length >= MOST_BOOK) {
            refused(1);
            return NONE;
        }
        told.goOnWith(gift);
        return told.book.length;
    }

    public int given(int gate, int i, int what) throws NoSuchElementException {
        Gate asked = gateOf(gate);
        askKnown(what, 2);
        askKnown(i, asked.book.length - 1);
        readClues(asked);
        return at(what == 0 ? asked.book.gifts : what == 1 ? clues.states : clues.masks, i);
    }

    public int who(int gate, int sort, int what) throws NoSuchElementException {
        Gate asked = gateOf(gate);
        askKnown(sort, asked.rules.sorts - 1);
        askKnown(what, 1);
        readClues(asked);
        return what == 0 ? clues.howManyWith(1 << sort) : clues.howManyBy(1 << sort);
    }

    public int strange(int gate) throws NoSuchElementException {
        readClues(gateOf(gate));
        return clues.howManyWith(0);
    }

    public int fewest(int gate) throws NoSuchElementException {
        readClues(gateOf(gate));
        return clues.fewestSorts();
    }

    public boolean guess(int gate, int guess, int sort, int odds) throws NoSuchElementException {
        Gate told = gateOf(gate);
        askKnown(guess, GUESSES - 1);
        askKnown(sort, told.rules.sorts - 1);
        if (odds < 0 || odds > 99) {
            refused(2);
            return false;
        }
        put(told.book.guessed, guess * MOST_SORTS + sort, odds);
        return true;
    }

    public int credit(int gate, int guess) throws NoSuchElementException {
        Gate asked = gateOf(gate);
        askKnown(guess, GUESSES - 1);
        if (asked.book.guessedOdds(guess, NONE) == 0) {
            return NONE;
        }
        readClues(asked);
        return clues.creditOf(guess, asked.book);
    }

    public int drawn(int gate, int persons, int seed) throws NoSuchElementException, IllegalArgumentException {
        Gate told = gateOf(gate);
        askRange(persons, 1, MOST_PERSONS);
        if (told.rules.sorts == 0) {
            throw new IllegalArgumentException("no sorts");
        }
        giver.begin(told.rules, told.rules.setting);
        told.luck = seed;
        int together = 0;
        for (int person = 1; person <= persons; person++) {
            together += told.comesOne(giver);
            if (person % 10 == 0) {
                told.comesThief();
            }
        }
        return together;
    }

    public int empty(int gate) throws NoSuchElementException {
        Book book = gateOf(gate).book;
        int box = book.box;
        book.box = 0;
        return box;
    }

    public void image() {
        left.kept.becomeLike(left.book);
        right.kept.becomeLike(right.book);
        copy(status, keptStatus);
        hasImage = true;
    }

    public boolean restore() {
        if (!hasImage) {
            return false;
        }
        left.book.becomeLike(left.kept);
        right.book.becomeLike(right.kept);
        copy(keptStatus, status);
        return true;
    }

    private Gate gateOf(int gate) {
        askKnown(gate, 1);
        return gate == 0 ? left : right;
    }

    private static void askKnown(int number, int most) {
        if (number < 0 || number > most) {
            throw new NoSuchElementException("there is no such thing");
        }
    }

    private static void askRange(int number, int low, int high) {
        if (number < low || number > high) {
            throw new IllegalArgumentException("not as told");
        }
    }

    private void refused(int kind) {
        put(status, kind, at(status, kind) + 1);
    }

    private void walkAlong(Gate asked, int persons) {
        giver.begin(asked.rules, asked.rules.setting);
        walk.begin(asked.book.seed);
        walk.go(persons);
    }

    private void readClues(Gate asked) {
        giver.begin(asked.rules, asked.rules.setting);
        clues.read(asked.book);
    }

    private int meanFrom(int state) {
        walk.begin(state);
        walk.go(200);
        int half = walk.thousandthsGiven();
        walk.go(200);
        return (walk.thousandthsGiven() - half) / 200;
    }

    private void searchSettings(Gate asked, int n, int bound) {
        bestSetting = NONE;
        bestCoin = NONE;
        for (int setting = 0; setting < SETTINGS; setting++) {
            trial.become(setting);
            if (asked.rules.lesserIsLike(trial)) {
                continue;
            }
            giver.begin(asked.rules, trial);
            walk.begin(asked.book.seed);
            walk.go(n);
            if (walk.thousandthsAway() <= bound && walk.thousandthsGiven() > bestCoin) {
                bestSetting = setting;
                bestCoin = walk.thousandthsGiven();
            }
        }
    }

    private int soonerOdds(Gate asked, int price) {
        Rules rules = asked.rules;
        giver.begin(rules, rules.setting);
        int odds = 0;
        for (int sort = 0; sort < rules.sorts; sort++) {
            int gift = giver.giftAt(sort, asked.book.seed, 0);
            if (gift != NONE && (!rules.pays(sort, price) || gift < price)) {
                odds += at(rules.odds, sort);
            }
        }
        return odds;
    }

    private static int at(int[] row, int i) {
        return i >= 0 && i < row.length ? row[i] : 0;
    }

    private static void put(int[] row, int i, int number) {
        if (i >= 0 && i < row.length) {
            row[i] = number;
        }
    }

    private static void copy(int[] from, int[] to) {
        for (int i = 0; i < from.length && i < to.length; i++) {
            to[i] = from[i];
        }
    }

    /** What an owner may set: it stands apart from the Rules, so that another one can be tried. */
    private static final class Setting {
        int card = NONE;
        int keeper = 0;
        int glass = 0;
        int least = 0;

        void clear() {
            become(0);
        }

        void become(int number) {
            least = number / 44;
            keeper = number / 22 % 2;
            glass = number / 11 % 2;
            card = number % 11 - 1;
        }

        void becomeLike(Setting other) {
            card = other.card;
            keeper = other.keeper;
            glass = other.glass;
            least = other.least;
        }
    }

    /** What a TEXT told of a GATE. */
    private static final class Rules {
        int sorts = 0;
        int allOdds = 0;
        int sight = 1;
        int chance = 0;
        int bound = 100;
        int asked = 0;
        int length = 0;
        final int[] odds = new int[MOST_SORTS];
        final int[] worth = new int[MOST_SORTS];
        final int[] purse = new int[MOST_SORTS];
        final int[] begin = new int[MOST_SORTS + 1];
        final int[] steps = new int[MOST_BYTES];
        final Setting setting = new Setting();

        void clear() {
            sorts = 0;
            allOdds = 0;
            sight = 1;
            chance = 0;
            bound = 100;
            asked = 0;
            length = 0;
            setting.clear();
        }

        int told(int what) {
            switch (what) {
                case 0: return sorts;
                case 1: return sight;
                case 2: return setting.card;
                case 3: return setting.keeper;
                case 4: return setting.glass;
                case 5: return setting.least;
                case 6: return chance;
                case 7: return bound;
                default: return allOdds;
            }
        }

        void add(int step) {
            put(steps, length, step);
            length++;
        }

        void addValue(int value) {
            asked |= 1 << value;
            add(VALUE_STEP + value);
        }

        void closeSort() {
            allOdds += at(odds, sorts);
            sorts++;
            put(begin, sorts, length);
        }

        int states() {
            return sight == 0 ? 1 : sight == 1 ? 10 : MOST_STATES;
        }

        int stateBehind(int state, int gift) {
            return sight == 0 ? 0 : sight == 1 ? gift : state % 10 * 10 + gift;
        }

        int meanOf(int state) {
            return sight == 2 ? (state / 10 + state % 10) / 2 : state;
        }

        /** The last SORT takes what the others left, so that no billionth is lost. */
        int partOf(int sort, int amount, int left) {
            if (sort == sorts - 1 || allOdds <= 0) {
                return left;
            }
            return (int) ((long) at(odds, sort) * amount / allOdds);
        }

        boolean pays(int sort, int price) {
            return at(worth, sort) >= price && at(purse, sort) >= price;
        }

        int payingOdds(int price) {
            int paying = 0;
            for (int sort = 0; sort < sorts; sort++) {
                paying += pays(sort, price) ? at(odds, sort) : 0;
            }
            return paying;
        }

        int takenAt(int price) {
            return thousandths(price * payingOdds(price));
        }

        int thousandths(int some) {
            return allOdds > 0 ? 1000 * some / allOdds : 0;
        }

        /** Billionths that one person asked for a PRICE gives: the ODDS of all who pay are cut down together. */
        long partsAt(int price) {
            return allOdds > 0 ? (long) ALL_CASES * payingOdds(price) / allOdds * price : 0;
        }

        /** Spares trying SETTINGS that differ from a lesser one only in what no EXPR asks for. */
        boolean lesserIsLike(Setting other) {
            boolean keeperIsLike = other.keeper == 1 && !asks(KEEPER);
            boolean glassIsLike = other.glass == 1 && !asks(GLASS) && !asks(LAST) && !asks(MEAN);
            return lesserCardIsLike(other) || keeperIsLike || glassIsLike;
        }

        /** A CARD with the number 0 is as none but for its sign, another one but for its number. */
        boolean lesserCardIsLike(Setting other) {
            return other.card > 0 && !asks(CARD) || other.card == 0 && !asks(SIGN);
        }

        private boolean asks(int value) {
            return (asked >> value & 1) == 1;
        }
    }

    /** What happened at a GATE: all of it that an IMAGE keeps. */
    private static final class Book {
        int seed = 0;
        int stateNow = 0;
        int length = 0;
        int box = 0;
        int stolen = 0;
        final int[] gifts = new int[MOST_BOOK];
        final int[] guessed = new int[GUESSES * MOST_SORTS];

        void clear() {
            beginAt(0);
            box = 0;
            stolen = 0;
            Arrays.fill(guessed, 0);
        }

        void beginAt(int state) {
            seed = state;
            stateNow = state;
            length = 0;
        }

        void becomeLike(Book other) {
            seed = other.seed;
            stateNow = other.stateNow;
            length = other.length;
            box = other.box;
            stolen = other.stolen;
            copy(other.gifts, gifts);
            copy(other.guessed, guessed);
        }

        int told(int what) {
            switch (what) {
                case 9: return seed;
                case 10: return length;
                case 11: return box;
                case 12: return stolen;
                default: return stateNow;
            }
        }

        void write(int gift) {
            if (length < MOST_BOOK) {
                put(gifts, length, gift);
                length++;
            }
        }

        /** ODDS that a GUESS has for SORTS, these as bits (NONE has every bit). */
        int guessedOdds(int guess, int sorts) {
            int odds = 0;
            for (int sort = 0; sort < MOST_SORTS; sort++) {
                if ((sorts >> sort & 1) == 1) {
                    odds += at(guessed, guess * MOST_SORTS + sort);
                }
            }
            return odds;
        }
    }

    /** A GATE; its Rules are exchanged whole when a TEXT without a FAULT comes. */
    private static final class Gate {
        Rules rules = new Rules();
        final Book book = new Book();
        final Book kept = new Book();
        int luck = 0;

        void goOnWith(int gift) {
            book.write(gift);
            book.stateNow = rules.stateBehind(book.stateNow, gift);
        }

        int comesOne(Giver giver) {
            int gift = giver.giftAt(drawSort(), book.stateNow, 0);
            if (gift == NONE) {
                return 0;
            }
            goOnWith(gift);
            book.box += gift;
            return gift;
        }

        void comesThief() {
            if (book.box >= rules.bound && draw(100) < rules.chance) {
                book.stolen += book.box;
                book.box = 0;
            }
        }

        private int drawSort() {
            int drawn = draw(rules.allOdds);
            int odds = 0;
            for (int sort = 0; sort < rules.sorts; sort++) {
                odds += at(rules.odds, sort);
                if (odds > drawn) {
                    return sort;
                }
            }
            return 0;
        }

        private int draw(int n) {
            luck = luck * 1103515245 + 12345;
            return n > 0 ? (luck >>> 16 & 32767) % n : 0;
        }
    }

    /** Reads a TEXT from the tape into Rules of its own, so that a GATE stays when there is a FAULT. */
    private static final class Reader {
        private static final int END = 0;
        private static final int WORD = 1;
        private static final int NUMBER = 2;
        private static final int OTHER = 3;
        private static final int DEEPEST = 5;
        private static final int MOST_NOTS = 6;

        final int[] tape = new int[MOST_BYTES];
        int fed = 0;
        int place = NONE;
        Rules rules = new Rules();
        private int size = 0;
        private int start = 0;
        private int end = 0;
        private int kind = END;
        private int number = 0;
        private int taken = 0;
        private int told = 0;
        private int fault = 0;

        void take(int four) {
            for (int shift = 24; shift >= 0; shift -= 8) {
                put(tape, fed, four >>> shift & 255);
                fed++;
            }
        }

        /** Answers the FAULT, 0 without; the tape is empty behind it. */
        int read(int n) {
            size = n;
            end = 0;
            told = 0;
            fault = 0;
            fed = 0;
            rules.clear();
            advance();
            for (int clauses = 0; clauses < MOST_BYTES && kind != END; clauses++) {
                if (!clause()) {
                    break;
                }
            }
            return fault;
        }

        private boolean clause() {
            boolean fine;
            if (isWord("sort")) {
                fine = sortClause();
            } else if (isWord("sight")) {
                fine = once(1) && sightClause();
            } else if (isWord("card")) {
                fine = once(2) && cardClause();
            } else if (isWord("keeper")) {
                fine = once(4);
                rules.setting.keeper = 1;
            } else if (isWord("glass")) {
                fine = once(8);
                rules.setting.glass = 1;
            } else if (isWord("least")) {
                fine = once(16) && leastClause();
            } else if (isWord("thief")) {
                fine = once(32) && thiefClause();
            } else {
                fine = refuse(1);
            }
            return fine && sign(';');
        }

        private boolean sortClause() {
            int sort = rules.sorts;
            if (sort >= MOST_SORTS) {
                return refuse(2);
            }
            advance();
            if (!numberFrom(1, 99)) {
                return false;
            }
            put(rules.odds, sort, taken);
            if (!word("worth") || !numberFrom(0, 99)) {
                return false;
            }
            put(rules.worth, sort, taken);
            if (!word("purse") || !numberFrom(0, MOST_GIFT)) {
                return false;
            }
            put(rules.purse, sort, taken);
            if (!word("gives") || !either(0)) {
                return false;
            }
            rules.closeSort();
            return true;
        }

        private boolean sightClause() {
            boolean fine = numberFrom(0, 2);
            rules.sight = taken;
            return fine;
        }

        private boolean cardClause() {
            boolean fine = numberFrom(0, 9);
            rules.setting.card = taken;
            return fine;
        }

        private boolean leastClause() {
            boolean fine = numberFrom(0, MOST_GIFT);
            rules.setting.least = taken;
            return fine;
        }

        private boolean thiefClause() {
            if (!numberFrom(0, 100)) {
                return false;
            }
            rules.chance = taken;
            boolean fine = numberFrom(1, 999);
            rules.bound = taken;
            return fine;
        }

        /** Reads an EXPR, which stands within so many others. */
        private boolean either(int depth) {
            if (depth > DEEPEST) {
                return refuse(kind == NUMBER || kind == WORD || kind == '(' ? 2 : 1);
            }
            boolean fine = both(depth);
            for (int i = 0; i < MOST_BYTES && fine && isWord("or"); i++) {
                advance();
                fine = both(depth);
                rules.add(OR_STEP);
            }
            return fine;
        }

        private boolean both(int depth) {
            boolean fine = negation(depth);
            for (int i = 0; i < MOST_BYTES && fine && isWord("and"); i++) {
                advance();
                fine = negation(depth);
                rules.add(AND_STEP);
            }
            return fine;
        }

        private boolean negation(int depth) {
            int nots = 0;
            while (nots < MOST_NOTS && isWord("not")) {
                nots++;
                advance();
            }
            if (nots == MOST_NOTS && isWord("not")) {
                return refuse(2);
            }
            boolean fine = test(depth);
            for (int i = 0; i < nots; i++) {
                rules.add(NOT_STEP);
            }
            return fine;
        }

        private boolean test(int depth) {
            boolean fine = sum(depth);
            if (fine && (kind == '<' || kind == '=')) {
                int step = SIGN_STEP + kind;
                advance();
                fine = sum(depth);
                rules.add(step);
            }
            return fine;
        }

        private boolean sum(int depth) {
            boolean fine = product(depth);
            for (int i = 0; i < MOST_BYTES && fine && (kind == '+' || kind == '-'); i++) {
                int step = SIGN_STEP + kind;
                advance();
                fine = product(depth);
                rules.add(step);
            }
            return fine;
        }

        private boolean product(int depth) {
            boolean fine = part(depth);
            for (int i = 0; i < MOST_BYTES && fine && (kind == '*' || kind == '/'); i++) {
                int step = SIGN_STEP + kind;
                advance();
                fine = part(depth);
                rules.add(step);
            }
            return fine;
        }

        private boolean part(int depth) {
            if (kind == '(') {
                advance();
                return either(depth + 1) && sign(')');
            }
            if (kind == WORD) {
                int value = valueAsked();
                if (value == NONE) {
                    return refuse(3);
                }
                rules.addValue(value);
                advance();
                return true;
            }
            boolean fine = numberFrom(0, 999);
            rules.add(taken);
            return fine;
        }

        private int valueAsked() {
            return isWord("worth") ? WORTH : isWord("purse") ? PURSE : isWord("last") ? LAST
                    : isWord("mean") ? MEAN : isWord("card") ? CARD : isWord("sign") ? SIGN
                    : isWord("keeper") ? KEEPER : isWord("glass") ? GLASS : isWord("least") ? LEAST : NONE;
        }

        private boolean refuse(int kindOfFault) {
            fault = kindOfFault;
            place = start;
            return false;
        }

        private boolean once(int bit) {
            if ((told & bit) != 0) {
                return refuse(4);
            }
            told |= bit;
            advance();
            return true;
        }

        private boolean word(String text) {
            if (!isWord(text)) {
                return refuse(1);
            }
            advance();
            return true;
        }

        private boolean sign(int wanted) {
            if (kind != wanted) {
                return refuse(1);
            }
            advance();
            return true;
        }

        private boolean numberFrom(int low, int high) {
            if (kind != NUMBER) {
                return refuse(1);
            }
            if (number < low || number > high) {
                return refuse(2);
            }
            taken = number;
            advance();
            return true;
        }

        private boolean isWord(String text) {
            if (kind != WORD || end - start != text.length()) {
                return false;
            }
            for (int i = 0; i < text.length(); i++) {
                if (at(tape, start + i) != text.charAt(i)) {
                    return false;
                }
            }
            return true;
        }

        private void advance() {
            start = end;
            while (start < size && isBlank(at(tape, start))) {
                start++;
            }
            end = start;
            int first = at(tape, start);
            if (start >= size) {
                kind = END;
            } else if (isLetter(first)) {
                kind = WORD;
                while (end < size && isLetter(at(tape, end))) {
                    end++;
                }
            } else if (isDigit(first)) {
                kind = NUMBER;
                readNumber();
            } else {
                kind = isSign(first) ? first : OTHER;
                end++;
            }
        }

        /** A number of too many digits becomes 1000, more than is right anywhere. */
        private void readNumber() {
            number = 0;
            while (end < size && isDigit(at(tape, end))) {
                number = end - start < 3 ? number * 10 + at(tape, end) - '0' : 1000;
                end++;
            }
        }

        private static boolean isBlank(int sign) {
            return sign == 32 || sign == 10;
        }

        private static boolean isLetter(int sign) {
            return sign >= 'a' && sign <= 'z';
        }

        private static boolean isDigit(int sign) {
            return sign >= '0' && sign <= '9';
        }

        private static boolean isSign(int sign) {
            return sign == ';' || sign == '(' || sign == ')' || sign == '+' || sign == '-' || sign == '*'
                    || sign == '/' || sign == '<' || sign == '=';
        }
    }

    /** Tells what persons give; it remembers what it reckoned, since CASES ask for the same again and again. */
    private static final class Giver {
        private static final int UNKNOWN = -2;

        Rules rules;
        private Setting setting;
        private final int[] known;
        private final int[] values = new int[VALUES];
        private final int[] stack = new int[64];

        Giver(Rules rules, int[] known) {
            this.rules = rules;
            this.setting = rules.setting;
            this.known = known;
        }

        void begin(Rules newRules, Setting newSetting) {
            rules = newRules;
            setting = newSetting;
            Arrays.fill(known, UNKNOWN);
        }

        /** What a SORT GIVES of whose PURSE something is spent; NONE: it is KEPT AWAY. */
        int giftAt(int sort, int state, int spent) {
            int seen = setting.glass == 1 ? state : 0;
            int place = (spent * MOST_SORTS + sort) * MOST_STATES + seen;
            int gift = at(known, place);
            if (gift == UNKNOWN) {
                look(sort, seen, spent);
                gift = kept(worked(at(rules.begin, sort), at(rules.begin, sort + 1)));
                put(known, place, gift);
            }
            return gift;
        }

        private void look(int sort, int seen, int spent) {
            int purse = at(rules.purse, sort) - spent;
            put(values, WORTH, at(rules.worth, sort));
            put(values, PURSE, purse < 0 ? 0 : purse);
            put(values, LAST, seen % 10);
            put(values, MEAN, rules.meanOf(seen));
            put(values, CARD, setting.card == NONE ? 0 : setting.card);
            put(values, SIGN, setting.card == NONE ? 0 : 1);
            put(values, KEEPER, setting.keeper);
            put(values, GLASS, setting.glass);
            put(values, LEAST, setting.least);
        }

        /** What becomes of a wish to give so much. */
        private int kept(int wish) {
            int purse = at(values, PURSE);
            int least = setting.least;
            int gift = wish < 0 ? 0 : wish > purse ? purse : wish;
            if (gift >= least) {
                return gift;
            }
            return at(values, WORTH) >= least && purse >= least ? least : NONE;
        }

        private int worked(int from, int to) {
            int top = 0;
            for (int i = from; i < to; i++) {
                int step = at(rules.steps, i);
                if (step < SIGN_STEP) {
                    put(stack, top, step < VALUE_STEP ? step : at(values, step - VALUE_STEP));
                    top++;
                } else if (step == NOT_STEP) {
                    put(stack, top - 1, at(stack, top - 1) == 0 ? 1 : 0);
                } else {
                    top--;
                    put(stack, top - 1, joined(step, at(stack, top - 1), at(stack, top)));
                }
            }
            return at(stack, 0);
        }

        private static int joined(int step, int a, int b) {
            switch (step - SIGN_STEP) {
                case '+': return a + b;
                case '-': return a - b;
                case '*': return a * b;
                case '/': return b == 0 ? 0 : a / b;
                case '<': return a < b ? 1 : 0;
                case '=': return a == b ? 1 : 0;
                case '&': return a != 0 && b != 0 ? 1 : 0;
                default: return a != 0 || b != 0 ? 1 : 0;
            }
        }
    }

    /** CASES by STATES, with a list of those STATES that have some: most have none. */
    private static final class Cases {
        private final int[] amounts;
        private final int[] places;
        int size = 0;

        Cases(int[] amounts, int[] places) {
            this.amounts = amounts;
            this.places = places;
        }

        void clear() {
            for (int i = 0; i < size; i++) {
                put(amounts, at(places, i), 0);
            }
            size = 0;
        }

        void add(int state, int amount) {
            if (amount == 0) {
                return;
            }
            int there = at(amounts, state);
            if (there == 0) {
                put(places, size, state);
                size++;
            }
            put(amounts, state, there + amount);
        }

        boolean isLike(Cases other) {
            if (size != other.size) {
                return false;
            }
            for (int i = 0; i < size; i++) {
                int state = at(places, i);
                if (amountOf(state) != other.amountOf(state)) {
                    return false;
                }
            }
            return true;
        }

        int placeOf(int i) {
            return at(places, i);
        }

        int amountOf(int state) {
            return at(amounts, state);
        }
    }

    /** Persons coming to one GATE, by CASES; the Giver tells which GATE it is. */
    private static final class Walk {
        private final Giver giver;
        Cases now = new Cases(new int[MOST_STATES], new int[MOST_STATES]);
        private Cases then = new Cases(new int[MOST_STATES], new int[MOST_STATES]);
        long given = 0;
        private long away = 0;

        Walk(Giver giver) {
            this.giver = giver;
        }

        void begin(int state) {
            given = 0;
            away = 0;
            now.clear();
            now.add(state, ALL_CASES);
        }

        void go(int persons) {
            for (int person = 1; person <= persons && giver.rules.sorts > 0; person++) {
                long givenBefore = given;
                long awayBefore = away;
                comesOne();
                if (now.isLike(then)) {
                    // All who are still to come find the CASES that this one found, and do as he did.
                    given += (persons - person) * (given - givenBefore);
                    away += (persons - person) * (away - awayBefore);
                    return;
                }
            }
        }

        int driftOfOneMore() {
            long before = given;
            go(1);
            return (int) ((given - before) / MILLION);
        }

        int thousandthsGiven() {
            return (int) (given / MILLION);
        }

        int thousandthsAway() {
            return (int) (away / MILLION);
        }

        private void comesOne() {
            then.clear();
            for (int i = 0; i < now.size; i++) {
                share(now.placeOf(i));
            }
            Cases old = now;
            now = then;
            then = old;
        }

        private void share(int state) {
            int amount = now.amountOf(state);
            Rules rules = giver.rules;
            int left = amount;
            for (int sort = 0; sort < rules.sorts; sort++) {
                int part = rules.partOf(sort, amount, left);
                left -= part;
                int gift = giver.giftAt(sort, state, 0);
                if (gift == NONE) {
                    away += part;
                    then.add(state, part);
                } else {
                    given += (long) part * gift;
                    then.add(rules.stateBehind(state, gift), part);
                }
            }
        }
    }

    /** Persons coming to GATE 0 and then to GATE 1, by CASES of couples of STATES. */
    private static final class Couples {
        private static final int MOST_COUPLES = MOST_STATES * MOST_STATES;

        private final Giver first;
        private final Giver second;
        private Cases now = new Cases(new int[MOST_COUPLES], new int[MOST_COUPLES]);
        private Cases then = new Cases(new int[MOST_COUPLES], new int[MOST_COUPLES]);
        long givenFirst = 0;
        long givenSecond = 0;
        long away = 0;

        Couples(Giver first, Rules rules) {
            this.first = first;
            this.second = new Giver(rules, new int[(MOST_GIFT + 1) * MOST_SORTS * MOST_STATES]);
        }

        void begin(Rules secondRules, int firstSeed, int secondSeed) {
            second.begin(secondRules, secondRules.setting);
            givenFirst = 0;
            givenSecond = 0;
            away = 0;
            now.clear();
            now.add(firstSeed * MOST_STATES + secondSeed, ALL_CASES);
        }

        void go(int persons) {
            for (int person = 0; person < persons && first.rules.sorts > 0; person++) {
                then.clear();
                for (int i = 0; i < now.size; i++) {
                    share(now.placeOf(i));
                }
                Cases old = now;
                now = then;
                then = old;
            }
        }

        private void share(int couple) {
            Rules rules = first.rules;
            int amount = now.amountOf(couple);
            int state = couple / MOST_STATES;
            int left = amount;
            for (int sort = 0; sort < rules.sorts; sort++) {
                int part = rules.partOf(sort, amount, left);
                left -= part;
                int gift = first.giftAt(sort, state, 0);
                int spent = gift == NONE ? 0 : gift;
                int behind = gift == NONE ? state : rules.stateBehind(state, gift);
                givenFirst += (long) part * spent;
                then.add(behind * MOST_STATES + goesOn(sort, couple % MOST_STATES, spent, part), part);
            }
        }

        /** A part of the persons comes to GATE 1: its STATE behind them. */
        private int goesOn(int sort, int state, int spent, int part) {
            if (sort >= second.rules.sorts) {
                return state;
            }
            int gift = second.giftAt(sort, state, spent);
            if (gift == NONE) {
                away += part;
                return state;
            }
            givenSecond += (long) part * gift;
            return second.rules.stateBehind(state, gift);
        }
    }

    /** Where it comes to rest: which STATES can be come to from which, as bits. */
    private static final class Rests {
        private final Giver giver;
        private final long[] low = new long[MOST_STATES];
        private final long[] high = new long[MOST_STATES];
        private int states = 0;
        private int seed = 0;

        Rests(Giver giver) {
            this.giver = giver;
        }

        void find(int fromSeed) {
            seed = fromSeed;
            states = giver.rules.states();
            for (int state = 0; state < states; state++) {
                link(state);
            }
            for (int middle = 0; middle < states; middle++) {
                for (int state = 0; state < states; state++) {
                    if (reaches(state, middle)) {
                        reachAsFarAs(middle, state);
                    }
                }
            }
        }

        int howMany() {
            int found = 0;
            for (int state = 0; state < states; state++) {
                found += isLeastOfRest(state) ? 1 : 0;
            }
            return found;
        }

        int leastOf(int i) {
            int found = 0;
            for (int state = 0; state < states; state++) {
                if (isLeastOfRest(state)) {
                    if (found == i) {
                        return state;
                    }
                    found++;
                }
            }
            return NONE;
        }

        int sizeFrom(int state) {
            int size = 0;
            for (int other = 0; other < states; other++) {
                size += reaches(state, other) ? 1 : 0;
            }
            return size;
        }

        private boolean isLeastOfRest(int state) {
            if (!reaches(seed, state)) {
                return false;
            }
            for (int other = 0; other < states; other++) {
                if (reaches(state, other) && (other < state || !reaches(other, state))) {
                    return false;
                }
            }
            return true;
        }

        private void link(int state) {
            if (isRow(state)) {
                low[state] = 0;
                high[state] = 0;
            }
            mark(state, state);
            for (int sort = 0; sort < giver.rules.sorts; sort++) {
                int gift = giver.giftAt(sort, state, 0);
                if (gift != NONE) {
                    mark(state, giver.rules.stateBehind(state, gift));
                }
            }
        }

        private void mark(int from, int to) {
            if (!isRow(from)) {
                return;
            }
            if (to < 64) {
                low[from] |= 1L << to;
            } else {
                high[from] |= 1L << to - 64;
            }
        }

        private void reachAsFarAs(int middle, int state) {
            if (isRow(middle) && isRow(state)) {
                low[state] |= low[middle];
                high[state] |= high[middle];
            }
        }

        private boolean reaches(int from, int to) {
            if (!isRow(from)) {
                return false;
            }
            long bits = to < 64 ? low[from] >> to : high[from] >> to - 64;
            return (bits & 1) == 1;
        }

        private boolean isRow(int state) {
            return state >= 0 && state < low.length && state < high.length;
        }
    }

    /** What a BOOK tells of the SORTS: of each GIFT the STATE ahead of it, and who EXPLAINS it, as bits. */
    private static final class Clues {
        private final Giver giver;
        final int[] states = new int[MOST_BOOK];
        final int[] masks = new int[MOST_BOOK];
        private int length = 0;
        private final int[] credits = new int[GUESSES];
        private final int[] shares = new int[GUESSES];

        Clues(Giver giver) {
            this.giver = giver;
        }

        void read(Book book) {
            length = book.length;
            int state = book.seed;
            for (int i = 0; i < length; i++) {
                int gift = at(book.gifts, i);
                put(states, i, state);
                put(masks, i, whoGives(gift, state));
                state = giver.rules.stateBehind(state, gift);
            }
        }

        private int whoGives(int gift, int state) {
            int mask = 0;
            for (int sort = 0; sort < giver.rules.sorts; sort++) {
                if (giver.giftAt(sort, state, 0) == gift) {
                    mask |= 1 << sort;
                }
            }
            return mask;
        }

        int howManyWith(int mask) {
            int found = 0;
            for (int i = 0; i < length; i++) {
                found += at(masks, i) == mask ? 1 : 0;
            }
            return found;
        }

        int howManyBy(int sorts) {
            int found = 0;
            for (int i = 0; i < length; i++) {
                found += (at(masks, i) & sorts) != 0 ? 1 : 0;
            }
            return found;
        }

        int fewestSorts() {
            int best = 255;
            for (int sorts = 255; sorts >= 0; sorts--) {
                if (Integer.bitCount(sorts) <= Integer.bitCount(best) && explainAll(sorts)) {
                    best = sorts;
                }
            }
            return best;
        }

        private boolean explainAll(int sorts) {
            for (int i = 0; i < length; i++) {
                int mask = at(masks, i);
                if (mask != 0 && (mask & sorts) == 0) {
                    return false;
                }
            }
            return true;
        }

        int creditOf(int guess, Book book) {
            int told = 0;
            for (int other = 0; other < GUESSES; other++) {
                told += book.guessedOdds(other, NONE) > 0 ? 1 : 0;
            }
            for (int other = 0; other < GUESSES; other++) {
                boolean shares = told > 0 && book.guessedOdds(other, NONE) > 0;
                put(credits, other, shares ? MILLION / told : 0);
            }
            for (int i = 0; i < length; i++) {
                weigh(at(masks, i), book);
            }
            return at(credits, guess);
        }

        private void weigh(int mask, Book book) {
            long all = 0;
            for (int guess = 0; guess < GUESSES; guess++) {
                int share = at(credits, guess) * weight(guess, mask, book);
                put(shares, guess, share);
                all += share;
            }
            for (int guess = 0; guess < GUESSES && all > 0; guess++) {
                put(credits, guess, (int) ((long) at(shares, guess) * MILLION / all));
            }
        }

        private int weight(int guess, int mask, Book book) {
            int all = book.guessedOdds(guess, NONE);
            int weight = all > 0 ? 1000 * book.guessedOdds(guess, mask) / all : 0;
            return weight < 1 ? 1 : weight;
        }
    }
}
