/** The sentences of 'Promise 1' to 'Promise 35' that name an edge: what is refused, by which exception, and that it changes nothing. */
final class EdgesCallTest {
    private static final int MIN = Integer.MIN_VALUE;
    private static final int MAX = Integer.MAX_VALUE;
    private static final int[] NO_GATES = {-1, 2, 3, MIN, MAX};

    public static void main(String[] args) {
        fiveHundredAndTwelveCalls();
        none();
        newObject();
        feedTellsHowMany();
        feedTooMuch();
        highestFirst();
        firstBytes();
        allAnew();
        theGateStays();
        itsSeedIsZero();
        gateRefused();
        faultPlace();
        countRefused();
        aboutRefused();
        sortRefused();
        givesNone();
        givesRefused();
        nextRefused();
        seedTold();
        seedRefused();
        setRefused();
        coinRefused();
        casesRefused();
        driftRefused();
        turnNone();
        restNone();
        restRefused();
        bestNone();
        bestRefused();
        wouldRefused();
        cardRefused();
        seededRefused();
        priceRefused();
        pricedRefused();
        mixedRefused();
        nearRefused();
        giveRefused();
        givenRefused();
        whoRefused();
        strangeRefused();
        fewestRefused();
        guessRefused();
        creditRefused();
        drawnRefused();
        emptyTwice();
        imageInPlaceOfAnother();
        restoreFalse();
        Check.end();
    }

    private static void fiveHundredAndTwelveCalls() {
        Check.sentence("An object is used for at most 512 calls after it has been made");
        GateBox x = new GateBox();
        int calls = 0;
        // the dearest calls at both ends
        for (int gate = 0; gate < 2; gate++) {
            String text = eightSorts(gate == 0 ? "last+mean" : "last*mean");
            Check.due("a text", Check.gate(x, gate, text), 0);
            calls += (text.length() + 19) / 20 + 1;
        }
        int best = x.best(0, 60, MAX, 1);
        int near = x.near(60, 1);
        calls += 2;
        while (calls < 510) {
            x.give(0, calls % 10);
            calls++;
        }
        Check.due("the 511th call", x.near(60, 1), near);
        Check.due("the 512th call", x.best(0, 60, MAX, 1), best);
    }

    private static String eightSorts(String expr) {
        StringBuilder text = new StringBuilder("sight2;glass;");
        for (int sort = 0; sort < 8; sort++) {
            text.append("sort ").append(sort + 1).append(" worth 9 purse 9 gives ").append(expr).append("/").append(sort + 1).append(";");
        }
        return text.toString();
    }

    private static void none() {
        Check.sentence("`NONE = -1`: There is none.");
        Check.due("NONE", GateBox.NONE, -1);
    }

    private static void newObject() {
        Check.sentence("`GateBox()`: Two GATES without SORTS.");
        GateBox x = new GateBox();
        Check.due("sorts of gate 0", x.about(0, 0), 0);
        Check.due("sorts of gate 1", x.about(1, 0), 0);
        Check.due("all odds", x.about(0, 8) + x.about(1, 8), 0);
        Check.due("the tape", x.count(0), 0);
        Check.due("fault()", x.fault(), -1);
        Check.due("restore()", x.restore(), false);
        GateBox y = new GateBox();
        Check.gate(y, 0, "keeper;");
        Check.due("another object", x.about(0, 3), 0);
    }

    private static void feedTellsHowMany() {
        Check.sentence("Twenty bytes come behind the tape, of each number the highest first: how many it has");
        GateBox x = new GateBox();
        for (int i = 1; i <= 35; i++) {
            Check.due("feed " + i, x.feed(0x20202020, 0x20202020, 0x20202020, 0x20202020, 0x20202020), 20 * i);
            Check.due("count(0)", x.count(0), 20 * i);
        }
        Check.due("all 700 are read", x.gate(0, 700), 0);
    }

    private static void feedTooMuch() {
        Check.sentence("NONE, and none come, if it would have more than 700.");
        GateBox x = new GateBox();
        Check.feed(x, " ".repeat(660) + "keeper;");
        Check.due("680", x.count(0), 680);
        Check.due("700 are not too many", x.feed(0x2020676c, 0x6173733b, 0x20202020, 0x20202020, 0x20202020), 700);
        Check.due("720 are", x.feed(0x3f3f3f3f, 0x3f3f3f3f, 0x3f3f3f3f, 0x3f3f3f3f, 0x3f3f3f3f), -1);
        Check.due("none came", x.count(0), 700);
        Check.due("once more", x.feed(0x3f3f3f3f, 0x3f3f3f3f, 0x3f3f3f3f, 0x3f3f3f3f, 0x3f3f3f3f), -1);
        Check.due("what was told", x.gate(0, 700), 0);
        Check.due("the keeper", x.about(0, 3), 1);
        Check.due("the glass", x.about(0, 4), 1);
        Check.due("there is room again", x.feed(0, 0, 0, 0, 0), 20);
        Check.due("nothing of that is a refused call of status", x.count(1) + x.count(2) + x.count(3), 0);
    }

    private static void highestFirst() {
        Check.sentence("of each number the highest first");
        // each byte has a place of its own: one ? goes along twenty blanks
        for (int place = 0; place < 20; place++) {
            int[] f = {0x20202020, 0x20202020, 0x20202020, 0x20202020, 0x20202020};
            int shift = 24 - 8 * (place % 4);
            f[place / 4] = f[place / 4] & ~(255 << shift) | '?' << shift;
            GateBox x = new GateBox();
            x.feed(f[0], f[1], f[2], f[3], f[4]);
            Check.due("a fault", x.gate(0, 20), 1);
            Check.due("its place", x.fault(), place);
            GateBox y = new GateBox();
            f[place / 4] = f[place / 4] & ~(255 << shift) | 0xff << shift;
            y.feed(f[0], f[1], f[2], f[3], f[4]);
            Check.due("a byte of 255", y.gate(0, 20), 1);
            Check.due("its place", y.fault(), place);
        }
    }

    private static void firstBytes() {
        Check.sentence("The tape's first n bytes (it is empty then) are a GATE");
        for (int n = 0; n <= 20; n++) {
            GateBox x = new GateBox();
            Check.feed(x, "keeper;  glass; x ");
            boolean fine = n == 0 || n >= 7 && n <= 9 || n >= 15 && n <= 16;
            Check.due(n + " bytes", x.gate(0, n), fine ? 0 : 1);
            Check.due("keeper of " + n + " bytes", x.about(0, 3), fine && n >= 7 ? 1 : 0);
            Check.due("glass of " + n + " bytes", x.about(0, 4), fine && n >= 15 ? 1 : 0);
            Check.due("the tape is empty", x.count(0), 0);
            Check.notAsTold("nothing is left of it", () -> x.gate(0, 1));
            Check.due("what was there doesn't come back", x.feed(0x20202020, 0x20202020, 0x20202020, 0x20202020, 0x20202020), 20);
            Check.due("twenty blanks", x.gate(0, 20), 0);
        }
    }

    private static void allAnew() {
        Check.sentence("are a GATE, all anew");
        GateBox x = new GateBox();
        Check.gate(x, 0, "sort 5 worth 9 purse 9 gives 4;sort 6 worth 9 purse 9 gives 5;sight 2;card 3;keeper;glass;least 4;thief 5 6;");
        Check.gate(x, 0, "sort 7 worth 8 purse 6 gives last+mean+card+sign+keeper+glass+least;");
        int[] due = {1, 1, -1, 0, 0, 0, 0, 100, 7, 0, 0, 0, 0, 0};
        for (int what = 0; what < due.length; what++) {
            Check.due("about(0, " + what + ")", x.about(0, what), due[what]);
        }
        Check.due("gives", x.gives(0, 0, 9), 0);
        Check.noSuch("its second sort", () -> x.sort(0, 1, 0));
        Check.due("a text of nothing", x.gate(0, 0), 0);
        Check.due("no sorts", x.about(0, 0), 0);
        Check.due("no odds", x.about(0, 8), 0);
        // a refused text leaves nothing behind for the next one
        Check.gate(x, 0, "sort 9 worth 9 purse 9 gives 7+1;sight 2;card 3;keeper;glass;least 4;thief 5 6;x");
        Check.gate(x, 0, "sort 7 worth 8 purse 6 gives 2;");
        for (int what = 0; what < due.length; what++) {
            Check.due("behind a fault: about(0, " + what + ")", x.about(0, what), due[what]);
        }
        Check.due("gives", x.gives(0, 0, 9), 2);
    }

    private static void theGateStays() {
        Check.sentence("or the FAULT (the GATE stays, the tape is empty; STATUS counts).");
        GateBox x = made();
        x.drawn(0, 12, 3);
        x.guess(0, 2, 1, 7);
        x.image();
        String about = "";
        for (int what = 0; what < 14; what++) {
            about += x.about(0, what) + " ";
        }
        String[] texts = {"x", "sight 3;", "sort 1 worth 1 purse 1 gives x;", "keeper;keeper;", "sort 99 worth 1 purse 1 gives 1;glass;sight 0;least 9;"
                + "card 7;thief 1 1;keeper"};
        int[] faults = {1, 2, 3, 4, 1};
        for (int i = 0; i < texts.length; i++) {
            Check.due("gate of " + texts[i], Check.gate(x, 0, texts[i]), faults[i]);
            Check.due("the tape", x.count(0), 0);
            Check.due("status", x.count(1), i + 1);
            String now = "";
            for (int what = 0; what < 14; what++) {
                now += x.about(0, what) + " ";
            }
            Check.due("the gate", now, about);
            Check.due("its sort", x.sort(0, 0, 0), 1);
            Check.due("its expr", x.gives(0, 0, 0), 3);
            Check.due("its guess", x.credit(0, 2), 1000000);
        }
        Check.due("the image stays", x.restore(), true);
    }

    private static void itsSeedIsZero() {
        Check.sentence("Its SEED is 0 then, its BOOK and GUESSES, BOX and what was STOLEN are gone, the image, too.");
        GateBox x = new GateBox();
        String text = "sort 1 worth 9 purse 9 gives 3;sight 2;thief 100 20;";
        for (int gate = 0; gate < 2; gate++) {
            Check.gate(x, gate, text);
            x.seed(gate, 71);
            x.drawn(gate, 12, 1);
            x.guess(gate, 2, 0, 9);
        }
        int[] due = {71, 12, 6, 30, 33};
        x.image();
        Check.gate(x, 0, text);
        for (int what = 9; what < 14; what++) {
            Check.due("about(0, " + what + ")", x.about(0, what), 0);
            Check.due("the other gate's stay: about(1, " + what + ")", x.about(1, what), due[what - 9]);
        }
        Check.due("the guess", x.credit(0, 2), -1);
        Check.due("the other gate's guess", x.credit(1, 2), 1000000);
        Check.noSuch("the book", () -> x.given(0, 0, 0));
        Check.due("the image", x.restore(), false);
        x.image();
        Check.due("a new one", x.restore(), true);
        Check.due("the other gate's text, of nothing", x.gate(1, 0), 0);
        Check.due("the image, too", x.restore(), false);
    }

    private static void gateRefused() {
        Check.sentence("NoSuchElementException: no such GATE (as everywhere). IllegalArgumentException (behind that): the tape has not so many,"
                + " n below 0 (nothing changes).");
        GateBox x = made();
        Check.gate(x, 1, "x");
        x.image();
        Check.feed(x, "keeper;");
        String seen = Check.seen(x);
        for (int gate : NO_GATES) {
            Check.noSuch("gate(" + gate + ", 7)", () -> x.gate(gate, 7));
            Check.noSuch("gate(" + gate + ", 21)", () -> x.gate(gate, 21));
            Check.noSuch("gate(" + gate + ", -1)", () -> x.gate(gate, -1));
        }
        for (int gate = 0; gate < 2; gate++) {
            for (int n : new int[] {21, 701, MAX, -1, MIN}) {
                int told = gate;
                Check.notAsTold("gate(" + gate + ", " + n + ")", () -> x.gate(told, n));
            }
        }
        Check.due("nothing changes", Check.seen(x), seen);
        Check.due("the image stays", x.restore(), true);
        Check.due("all the tape has", x.gate(0, 20), 0);
        Check.due("the keeper", x.about(0, 3), 1);
    }

    private static void faultPlace() {
        Check.sentence("The place of the latest gate()'s FAULT; NONE without.");
        GateBox x = new GateBox();
        Check.due("at first", x.fault(), -1);
        Check.gate(x, 0, " ?");
        Check.due("a fault", x.fault(), 1);
        Check.due("asked again", x.fault(), 1);
        Check.gate(x, 1, "keeper ?");
        Check.due("of the other gate", x.fault(), 7);
        Check.gate(x, 1, "");
        Check.due("none", x.fault(), -1);
        Check.gate(x, 0, "?");
        Check.due("at 0", x.fault(), 0);
        Check.notAsTold("a refused one isn't the latest", () -> x.gate(0, 1));
        Check.due("at 0", x.fault(), 0);
        String most = "keeper;" + " ".repeat(692) + "?";
        Check.gate(x, 0, most);
        Check.due("at the last byte", x.fault(), 699);
        Check.gate(x, 0, " ".repeat(694) + "keeper");
        Check.due("at the end of 700", x.fault(), 700);
    }

    private static void countRefused() {
        Check.sentence("NoSuchElementException: another what.");
        GateBox x = new GateBox();
        for (int what : new int[] {-1, 4, MIN, MAX}) {
            Check.noSuch("count(" + what + ")", () -> x.count(what));
        }
        for (int what = 0; what < 4; what++) {
            Check.due("count(" + what + ")", x.count(what), 0);
        }
    }

    private static void aboutRefused() {
        Check.sentence("NoSuchElementException: also another what.");
        GateBox x = made();
        for (int what : new int[] {-1, 14, MIN, MAX}) {
            Check.noSuch("about(0, " + what + ")", () -> x.about(0, what));
        }
        for (int gate : NO_GATES) {
            Check.noSuch("about(" + gate + ", 0)", () -> x.about(gate, 0));
            Check.noSuch("about(" + gate + ", 13)", () -> x.about(gate, 13));
        }
    }

    private static void sortRefused() {
        Check.sentence("NoSuchElementException: also no such SORT (as everywhere), what.");
        GateBox x = made();
        Check.due("its last", x.sort(0, 1, 2), 9);
        for (int sort : new int[] {-1, 2, 8, MIN, MAX}) {
            Check.noSuch("sort(0, " + sort + ", 0)", () -> x.sort(0, sort, 0));
        }
        for (int what : new int[] {-1, 3, MIN, MAX}) {
            Check.noSuch("sort(0, 0, " + what + ")", () -> x.sort(0, 0, what));
        }
        for (int gate : NO_GATES) {
            Check.noSuch("sort(" + gate + ", 0, 0)", () -> x.sort(gate, 0, 0));
        }
        Check.noSuch("a gate without sorts", () -> x.sort(1, 0, 0));
    }

    private static void givesNone() {
        Check.sentence("What a SORT GIVES in a STATE; NONE: it is KEPT AWAY.");
        GateBox x = Check.made("sort 1 worth 0 purse 9 gives 1-last;glass;least 1;");
        Check.due("in state 0", x.gives(0, 0, 0), 1);
        Check.due("in state 1", x.gives(0, 0, 1), -1);
        Check.due("in state 9", x.gives(0, 0, 9), -1);
    }

    private static void givesRefused() {
        Check.sentence("NoSuchElementException: also no such STATE (as everywhere).");
        GateBox x = made();
        Check.due("the last", x.gives(0, 1, 99), 1);
        for (int state : new int[] {-1, 100, MIN, MAX}) {
            Check.noSuch("gives(0, 0, " + state + ")", () -> x.gives(0, 0, state));
        }
        for (int sort : new int[] {-1, 2, MIN, MAX}) {
            Check.noSuch("gives(0, " + sort + ", 0)", () -> x.gives(0, sort, 0));
        }
        for (int gate : NO_GATES) {
            Check.noSuch("gives(" + gate + ", 0, 0)", () -> x.gives(gate, 0, 0));
        }
        Check.noSuch("a gate without sorts", () -> x.gives(1, 0, 0));
    }

    private static void nextRefused() {
        Check.sentence("NoSuchElementException: also no such GIFT.");
        GateBox x = made();
        Check.due("the greatest", x.next(0, 99, 9), 99);
        for (int gift : new int[] {-1, 10, MIN, MAX}) {
            Check.noSuch("next(0, 0, " + gift + ")", () -> x.next(0, 0, gift));
        }
        for (int state : new int[] {-1, 100, MIN, MAX}) {
            Check.noSuch("next(0, " + state + ", 0)", () -> x.next(0, state, 0));
        }
        for (int gate : NO_GATES) {
            Check.noSuch("next(" + gate + ", 0, 0)", () -> x.next(gate, 0, 0));
        }
        Check.due("without sorts", x.next(1, 9, 4), 4);
        Check.noSuch("no such state there", () -> x.next(1, 10, 4));
    }

    private static void seedTold() {
        Check.sentence("The SEED is told: its BOOK is gone, THE STATE NOW is the SEED.");
        GateBox x = made();
        x.drawn(0, 4, 1);
        x.give(1, 7);
        int box = x.about(0, 11);
        x.seed(0, 99);
        Check.due("the seed", x.about(0, 9), 99);
        Check.due("the book", x.about(0, 10), 0);
        Check.due("the state now", x.about(0, 13), 99);
        Check.due("the box stays", x.about(0, 11), box);
        Check.due("the other book stays", x.about(1, 10), 1);
        x.give(0, 4);
        x.seed(0, 99);
        Check.due("told again, the book is gone", x.about(0, 10), 0);
        Check.due("the state now", x.about(0, 13), 99);
    }

    private static void seedRefused() {
        Check.sentence("NoSuchElementException likewise.");
        GateBox x = made();
        x.seed(0, 5);
        x.give(0, 4);
        String seen = Check.seen(x);
        for (int state : new int[] {-1, 100, MIN, MAX}) {
            Check.noSuch("seed(0, " + state + ")", () -> seeded(x, 0, state));
        }
        for (int gate : NO_GATES) {
            Check.noSuch("seed(" + gate + ", 0)", () -> seeded(x, gate, 0));
        }
        Check.noSuch("seed(1, 10)", () -> seeded(x, 1, 10));
        Check.due("nothing changes", Check.seen(x), seen);
    }

    private static long seeded(GateBox x, int gate, int state) {
        x.seed(gate, state);
        return 0;
    }

    private static void setRefused() {
        Check.sentence("NoSuchElementException: also no such SETTING (as everywhere).");
        GateBox x = made();
        String seen = Check.seen(x);
        for (int setting : new int[] {-1, 176, MIN, MAX}) {
            Check.noSuch("set(0, " + setting + ")", () -> x.set(0, setting) ? 1 : 0);
        }
        for (int gate : NO_GATES) {
            Check.noSuch("set(" + gate + ", 0)", () -> x.set(gate, 0) ? 1 : 0);
        }
        Check.due("nothing changes", Check.seen(x), seen);
        Check.due("set(0, 175)", x.set(0, 175), true);
        Check.due("set(0, 0)", x.set(0, 0), true);
        Check.due("set(1, 175)", x.set(1, 175), true);
    }

    private static void coinRefused() {
        Check.sentence("NoSuchElementException: also another what. IllegalArgumentException (behind that): n is not as told (as everywhere).");
        GateBox x = made();
        for (int what : new int[] {-1, 2, MIN, MAX}) {
            Check.noSuch("coin(0, 1, " + what + ")", () -> x.coin(0, 1, what));
            Check.noSuch("coin(0, 401, " + what + ")", () -> x.coin(0, 401, what));
        }
        for (int n : new int[] {-1, 401, MIN, MAX}) {
            Check.notAsTold("coin(0, " + n + ", 0)", () -> x.coin(0, n, 0));
            Check.notAsTold("coin(1, " + n + ", 1)", () -> x.coin(1, n, 1));
        }
        for (int gate : NO_GATES) {
            Check.noSuch("coin(" + gate + ", 401, 0)", () -> x.coin(gate, 401, 0));
        }
    }

    private static void casesRefused() {
        Check.sentence("CASES of a STATE behind n persons, in billionths. NoSuchElementException, IllegalArgumentException likewise.");
        GateBox x = made();
        Check.due("nobody came yet", x.cases(0, 0, 0), 1000000000);
        for (int state : new int[] {-1, 100, MIN, MAX}) {
            Check.noSuch("cases(0, 1, " + state + ")", () -> x.cases(0, 1, state));
            Check.noSuch("cases(0, 401, " + state + ")", () -> x.cases(0, 401, state));
        }
        for (int n : new int[] {-1, 401, MIN, MAX}) {
            Check.notAsTold("cases(0, " + n + ", 99)", () -> x.cases(0, n, 99));
        }
        for (int gate : NO_GATES) {
            Check.noSuch("cases(" + gate + ", -1, 0)", () -> x.cases(gate, -1, 0));
        }
        Check.noSuch("no such state there", () -> x.cases(1, 401, 10));
        Check.notAsTold("nor so many", () -> x.cases(1, 401, 9));
    }

    private static void driftRefused() {
        Check.sentence("IllegalArgumentException: k is not as told.");
        GateBox x = made();
        for (int k : new int[] {0, -1, 401, MIN, MAX}) {
            Check.notAsTold("drift(0, " + k + ")", () -> x.drift(0, k));
            Check.notAsTold("drift(1, " + k + ")", () -> x.drift(1, k));
        }
        for (int gate : NO_GATES) {
            Check.noSuch("drift(" + gate + ", 0)", () -> x.drift(gate, 0));
        }
        Check.due("drift(0, 1)", x.drift(0, 1), 1666);
        Check.due("drift(0, 400)", x.drift(0, 400), 1666);
    }

    private static void turnNone() {
        Check.sentence("TURN; NONE: none of 400 is.");
        GateBox x = made();
        Check.due("above", x.turn(0, 1667), 1);
        Check.due("none", x.turn(0, 1666), -1);
        Check.due("none", x.turn(0, MIN), -1);
        Check.due("the greatest", x.turn(0, MAX), 1);
        for (int gate : NO_GATES) {
            Check.noSuch("turn(" + gate + ", 0)", () -> x.turn(gate, 0));
        }
    }

    private static void restNone() {
        Check.sentence("RESTS: how many (i NONE; without SORTS one: the SEED alone)");
        GateBox x = made();
        for (int what = 0; what < 3; what++) {
            Check.due("rest(0, NONE, " + what + ")", x.rest(0, -1, what), 1);
            Check.due("rest(1, NONE, " + what + ")", x.rest(1, -1, what), 1);
        }
        x.seed(1, 9);
        int[] due = {9, 1, 0};
        for (int what = 0; what < 3; what++) {
            Check.due("rest(1, 0, " + what + ")", x.rest(1, 0, what), due[what]);
        }
    }

    private static void restRefused() {
        Check.sentence("NoSuchElementException: also there is none, another what.");
        GateBox x = made();
        for (int i : new int[] {1, -2, 100, MIN, MAX}) {
            Check.noSuch("rest(0, " + i + ", 0)", () -> x.rest(0, i, 0));
            Check.noSuch("rest(1, " + i + ", 2)", () -> x.rest(1, i, 2));
        }
        for (int what : new int[] {-1, 3, MIN, MAX}) {
            Check.noSuch("rest(0, 0, " + what + ")", () -> x.rest(0, 0, what));
            Check.noSuch("rest(0, NONE, " + what + ")", () -> x.rest(0, -1, what));
        }
        for (int gate : NO_GATES) {
            Check.noSuch("rest(" + gate + ", NONE, 0)", () -> x.rest(gate, -1, 0));
        }
    }

    private static void bestNone() {
        Check.sentence("BEST SETTING (what 0; NONE: none keeps so few away), its COIN (1; NONE).");
        GateBox x = Check.made("sort 1 worth 0 purse 9 gives 1;");
        Check.due("nobody is away", x.best(0, 9, 0, 0), 0);
        Check.due("its coin", x.best(0, 9, 0, 1), 9000);
        Check.due("fewer than nobody", x.best(0, 9, -1, 0), -1);
        Check.due("its coin", x.best(0, 9, -1, 1), -1);
        Check.due("fewer than nobody of nobody", x.best(0, 0, -1, 0), -1);
        Check.due("the least bound", x.best(0, 0, MIN, 1), -1);
    }

    private static void bestRefused() {
        Check.sentence("IllegalArgumentException: n is not 0 to 60. NoSuchElementException (ahead): also another what.");
        GateBox x = made();
        for (int n : new int[] {-1, 61, 400, MIN, MAX}) {
            Check.notAsTold("best(0, " + n + ", 0, 0)", () -> x.best(0, n, 0, 0));
            Check.notAsTold("best(1, " + n + ", 0, 1)", () -> x.best(1, n, 0, 1));
        }
        for (int what : new int[] {-1, 2, MIN, MAX}) {
            Check.noSuch("best(0, 60, 0, " + what + ")", () -> x.best(0, 60, 0, what));
            Check.noSuch("best(0, 61, 0, " + what + ")", () -> x.best(0, 61, 0, what));
        }
        for (int gate : NO_GATES) {
            Check.noSuch("best(" + gate + ", 61, 0, 0)", () -> x.best(gate, 61, 0, 0));
        }
        Check.due("best(0, 60, 0, 1)", x.best(0, 60, 0, 1), 180000);
        Check.due("best(0, 0, 0, 1)", x.best(0, 0, 0, 1), 0);
    }

    private static void wouldRefused() {
        Check.sentence("COIN of n persons (0 to 60), were it a SETTING. NoSuchElementException, IllegalArgumentException likewise.");
        GateBox x = made();
        for (int n : new int[] {-1, 61, MIN, MAX}) {
            Check.notAsTold("would(0, 0, " + n + ")", () -> x.would(0, 0, n));
            Check.notAsTold("would(0, 175, " + n + ")", () -> x.would(0, 175, n));
        }
        for (int setting : new int[] {-1, 176, MIN, MAX}) {
            Check.noSuch("would(0, " + setting + ", 60)", () -> x.would(0, setting, 60));
            Check.noSuch("would(0, " + setting + ", 61)", () -> x.would(0, setting, 61));
        }
        for (int gate : NO_GATES) {
            Check.noSuch("would(" + gate + ", 0, 61)", () -> x.would(gate, 0, 61));
        }
        Check.due("would(0, 0, 60)", x.would(0, 0, 60), 99999);
        Check.due("would(0, 175, 60)", x.would(0, 175, 60), 180000);
        Check.due("would(0, 175, 0)", x.would(0, 175, 0), 0);
    }

    private static void cardRefused() {
        Check.sentence("BEST CARD (0 none, else its number and 1) by n persons (0 to 60). IllegalArgumentException likewise.");
        GateBox x = made();
        for (int n : new int[] {-1, 61, MIN, MAX}) {
            Check.notAsTold("card(0, " + n + ")", () -> x.card(0, n));
        }
        for (int gate : NO_GATES) {
            Check.noSuch("card(" + gate + ", 61)", () -> x.card(gate, 61));
        }
        Check.due("card(0, 60)", x.card(0, 60), 0);
        Check.due("card(1, 0)", x.card(1, 0), 0);
        Check.due("the greatest", Check.made("sort 1 worth 9 purse 9 gives card;").card(0, 60), 10);
    }

    private static void seededRefused() {
        Check.sentence("BEST SEED by n persons (0 to 60). IllegalArgumentException likewise.");
        GateBox x = made();
        for (int n : new int[] {-1, 61, MIN, MAX}) {
            Check.notAsTold("seeded(0, " + n + ")", () -> x.seeded(0, n));
        }
        for (int gate : NO_GATES) {
            Check.noSuch("seeded(" + gate + ", 61)", () -> x.seeded(gate, 61));
        }
        Check.due("seeded(0, 60)", x.seeded(0, 60), 0);
        Check.due("the greatest", Check.made("sort 1 worth 9 purse 9 gives (last+mean)/2;sight 2;glass;").seeded(0, 60), 99);
    }

    private static void priceRefused() {
        Check.sentence("0 without SORTS. NoSuchElementException: also no such PRICE, what.");
        GateBox x = made();
        for (int price : new int[] {-1, 10, MIN, MAX}) {
            Check.noSuch("price(0, " + price + ", 0)", () -> x.price(0, price, 0));
            Check.noSuch("price(1, " + price + ", 0)", () -> x.price(1, price, 0));
        }
        for (int what : new int[] {-1, 3, MIN, MAX}) {
            Check.noSuch("price(0, 1, " + what + ")", () -> x.price(0, 1, what));
        }
        for (int gate : NO_GATES) {
            Check.noSuch("price(" + gate + ", 1, 0)", () -> x.price(gate, 1, 0));
        }
        for (int what = 0; what < 3; what++) {
            Check.due("price(1, 9, " + what + ")", x.price(1, 9, what), 0);
            Check.due("price(1, 0, " + what + ")", x.price(1, 0, what), 0);
        }
    }

    private static void pricedRefused() {
        Check.sentence("BEST PRICE.");
        GateBox x = made();
        for (int gate : NO_GATES) {
            Check.noSuch("priced(" + gate + ")", () -> x.priced(gate));
        }
        Check.due("priced(0)", x.priced(0), 9);
        Check.due("priced(1)", x.priced(1), 0);
    }

    private static void mixedRefused() {
        Check.sentence("IllegalArgumentException: n is not 0 to 400, e not 2 to 50, the PRICE not 0 to 9.");
        GateBox x = made();
        for (int n : new int[] {-1, 401, MIN, MAX}) {
            Check.notAsTold("mixed(0, " + n + ", 2, 0)", () -> x.mixed(0, n, 2, 0));
        }
        for (int each : new int[] {-1, 0, 1, 51, MIN, MAX}) {
            Check.notAsTold("mixed(0, 1, " + each + ", 0)", () -> x.mixed(0, 1, each, 0));
            Check.notAsTold("mixed(1, 0, " + each + ", 0)", () -> x.mixed(1, 0, each, 0));
        }
        for (int price : new int[] {-1, 10, MIN, MAX}) {
            Check.notAsTold("mixed(0, 1, 2, " + price + ")", () -> x.mixed(0, 1, 2, price));
        }
        for (int gate : NO_GATES) {
            Check.noSuch("mixed(" + gate + ", 401, 1, 10)", () -> x.mixed(gate, 401, 1, 10));
        }
        Check.due("mixed(0, 0, 2, 0)", x.mixed(0, 0, 2, 0), 0);
        Check.due("mixed(0, 400, 50, 9)", x.mixed(0, 400, 50, 9), 653333 + 8 * 9000);
    }

    private static void nearRefused() {
        Check.sentence("NoSuchElementException: another what. IllegalArgumentException (behind that): n.");
        GateBox x = made();
        for (int what : new int[] {-1, 3, MIN, MAX}) {
            Check.noSuch("near(60, " + what + ")", () -> x.near(60, what));
            Check.noSuch("near(61, " + what + ")", () -> x.near(61, what));
            Check.noSuch("near(-1, " + what + ")", () -> x.near(-1, what));
        }
        for (int n : new int[] {-1, 61, MIN, MAX}) {
            for (int what = 0; what < 3; what++) {
                int asked = what;
                Check.notAsTold("near(" + n + ", " + what + ")", () -> x.near(n, asked));
            }
        }
        Check.due("near(60, 0)", x.near(60, 0), 99999);
        Check.due("near(0, 0)", x.near(0, 0), 0);
    }

    private static void giveRefused() {
        Check.sentence("NONE (STATUS 1): it has 200, the GIFT is not 0 to 9.");
        GateBox x = made();
        int refused = 0;
        for (int gift : new int[] {-1, 10, MIN, MAX}) {
            Check.due("give(0, " + gift + ")", x.give(0, gift), -1);
            refused++;
            Check.due("status", x.count(2), refused);
            Check.due("the book", x.about(0, 10), 0);
            Check.due("the state now", x.about(0, 13), 0);
        }
        for (int gate : NO_GATES) {
            Check.noSuch("give(" + gate + ", 0)", () -> x.give(gate, 0));
            Check.noSuch("give(" + gate + ", 10)", () -> x.give(gate, 10));
        }
        Check.due("status", x.count(2), refused);
        for (int i = 1; i <= 200; i++) {
            Check.due("gift " + i, x.give(0, 3), i);
        }
        Check.due("it has 200", x.give(0, 3), -1);
        Check.due("status", x.count(2), refused + 1);
        Check.due("it has 200, and it's no gift", x.give(0, 10), -1);
        Check.due("counted once", x.count(2), refused + 2);
        Check.due("the book", x.about(0, 10), 200);
        Check.due("the state now", x.about(0, 13), 33);
    }

    private static void givenRefused() {
        Check.sentence("The i-th GIFT of a BOOK .. NoSuchElementException: also there is none, another what.");
        GateBox x = made();
        Check.noSuch("an empty book", () -> x.given(0, 0, 0));
        Check.noSuch("NONE", () -> x.given(0, -1, 0));
        x.give(0, 3);
        x.give(0, 4);
        for (int i : new int[] {-1, 2, 200, MIN, MAX}) {
            Check.noSuch("given(0, " + i + ", 0)", () -> x.given(0, i, 0));
        }
        for (int what : new int[] {-1, 3, MIN, MAX}) {
            Check.noSuch("given(0, 0, " + what + ")", () -> x.given(0, 0, what));
        }
        for (int gate : NO_GATES) {
            Check.noSuch("given(" + gate + ", 0, 0)", () -> x.given(gate, 0, 0));
        }
        int[] due = {4, 3, 0};
        for (int what = 0; what < 3; what++) {
            Check.due("given(0, 1, " + what + ")", x.given(0, 1, what), due[what]);
        }
        x.seed(0, 0);
        Check.noSuch("the book is gone", () -> x.given(0, 0, 0));
    }

    private static void whoRefused() {
        Check.sentence("Of a SORT: SURELY (what 0), PERHAPS (1). NoSuchElementException: also another what.");
        GateBox x = made();
        for (int what : new int[] {-1, 2, MIN, MAX}) {
            Check.noSuch("who(0, 0, " + what + ")", () -> x.who(0, 0, what));
        }
        for (int sort : new int[] {-1, 2, 8, 31, 32, MIN, MAX}) {
            Check.noSuch("who(0, " + sort + ", 0)", () -> x.who(0, sort, 0));
        }
        for (int gate : NO_GATES) {
            Check.noSuch("who(" + gate + ", 0, 0)", () -> x.who(gate, 0, 0));
        }
        Check.noSuch("a gate without sorts", () -> x.who(1, 0, 1));
        Check.due("an empty book", x.who(0, 1, 1), 0);
    }

    private static void strangeRefused() {
        Check.sentence("STRANGE GIFTS.");
        GateBox x = made();
        for (int gate : NO_GATES) {
            Check.noSuch("strange(" + gate + ")", () -> x.strange(gate));
        }
        Check.due("an empty book", x.strange(0), 0);
        Check.due("an empty book", x.strange(1), 0);
    }

    private static void fewestRefused() {
        Check.sentence("FEWEST, as bits.");
        GateBox x = made();
        for (int gate : NO_GATES) {
            Check.noSuch("fewest(" + gate + ")", () -> x.fewest(gate));
        }
        Check.due("an empty book", x.fewest(0), 0);
        Check.due("an empty book", x.fewest(1), 0);
    }

    private static void guessRefused() {
        Check.sentence("ODDS of a SORT in a GUESS: true. False (STATUS 2): not as told. NoSuchElementException: also no such GUESS"
                + " (0 to 3; as everywhere).");
        GateBox x = made();
        x.guess(0, 3, 1, 50);
        int refused = 0;
        for (int odds : new int[] {-1, 100, MIN, MAX}) {
            Check.due("guess(0, 3, 1, " + odds + ")", x.guess(0, 3, 1, odds), false);
            Check.due("guess(0, 0, 0, " + odds + ")", x.guess(0, 0, 0, odds), false);
            refused += 2;
            Check.due("status", x.count(3), refused);
        }
        for (int guess : new int[] {-1, 4, MIN, MAX}) {
            Check.noSuch("guess(0, " + guess + ", 0, 1)", () -> x.guess(0, guess, 0, 1) ? 1 : 0);
            Check.noSuch("guess(0, " + guess + ", 0, 100)", () -> x.guess(0, guess, 0, 100) ? 1 : 0);
        }
        for (int sort : new int[] {-1, 2, 8, MIN, MAX}) {
            Check.noSuch("guess(0, 0, " + sort + ", 1)", () -> x.guess(0, 0, sort, 1) ? 1 : 0);
            Check.noSuch("guess(0, 0, " + sort + ", 100)", () -> x.guess(0, 0, sort, 100) ? 1 : 0);
        }
        for (int gate : NO_GATES) {
            Check.noSuch("guess(" + gate + ", 0, 0, 1)", () -> x.guess(gate, 0, 0, 1) ? 1 : 0);
        }
        Check.noSuch("a gate without sorts", () -> x.guess(1, 0, 0, 1) ? 1 : 0);
        Check.due("status", x.count(3), refused);
        Check.due("the guess stays", x.credit(0, 3), 1000000);
        Check.due("no other is told", x.credit(0, 0), -1);
    }

    private static void creditRefused() {
        Check.sentence("CREDIT of a GUESS; NONE: it isn't told.");
        GateBox x = made();
        for (int guess : new int[] {-1, 4, MIN, MAX}) {
            Check.noSuch("credit(0, " + guess + ")", () -> x.credit(0, guess));
        }
        for (int gate : NO_GATES) {
            Check.noSuch("credit(" + gate + ", 0)", () -> x.credit(gate, 0));
        }
        Check.due("not told", x.credit(0, 0), -1);
        Check.due("a gate without sorts", x.credit(1, 3), -1);
        x.guess(0, 0, 0, 1);
        Check.due("told", x.credit(0, 0), 1000000);
        Check.due("the next isn't", x.credit(0, 1), -1);
        x.guess(0, 0, 0, 0);
        Check.due("told no more", x.credit(0, 0), -1);
    }

    private static void drawnRefused() {
        Check.sentence("Persons are DRAWN: what they gave together. IllegalArgumentException: how many, or there are no SORTS.");
        GateBox x = made();
        x.drawn(0, 3, 9);
        String seen = Check.seen(x);
        for (int persons : new int[] {0, -1, 401, MIN, MAX}) {
            Check.notAsTold("drawn(0, " + persons + ", 5)", () -> x.drawn(0, persons, 5));
            Check.notAsTold("drawn(1, " + persons + ", 5)", () -> x.drawn(1, persons, 5));
        }
        for (int persons : new int[] {1, 400}) {
            Check.notAsTold("no sorts: drawn(1, " + persons + ", 5)", () -> x.drawn(1, persons, 5));
        }
        for (int gate : NO_GATES) {
            Check.noSuch("drawn(" + gate + ", 0, 5)", () -> x.drawn(gate, 0, 5));
        }
        Check.due("nothing changes", Check.seen(x), seen);
    }

    private static void emptyTwice() {
        Check.sentence("The BOX is emptied: what was in it.");
        GateBox x = Check.made("sort 1 worth 9 purse 9 gives 3;thief 100 30;");
        Check.due("at first", x.empty(0), 0);
        x.drawn(0, 14, 1);
        Check.due("12 are left of 42", x.empty(0), 12);
        Check.due("emptied", x.about(0, 11), 0);
        Check.due("what was stolen stays", x.about(0, 12), 30);
        Check.due("the book stays", x.about(0, 10), 14);
        Check.due("once more", x.empty(0), 0);
        Check.due("the other box", x.empty(1), 0);
        x.drawn(0, 400, 1);
        Check.due("emptied by the thief", x.empty(0), 0);
        for (int gate : NO_GATES) {
            Check.noSuch("empty(" + gate + ")", () -> x.empty(gate));
        }
    }

    private static void imageInPlaceOfAnother() {
        Check.sentence("AN IMAGE is kept, in place of another one.");
        GateBox x = new GateBox();
        x.image();
        x.give(0, 1);
        x.image();
        x.give(0, 2);
        Check.due("restore()", x.restore(), true);
        Check.due("the later one", x.about(0, 10), 1);
        Check.due("restore()", x.restore(), true);
        Check.due("there is no earlier one", x.about(0, 10), 1);
    }

    private static void restoreFalse() {
        Check.sentence("It is as the IMAGE again: true. False: there is none.");
        GateBox x = new GateBox();
        x.give(0, 1);
        Check.due("none", x.restore(), false);
        Check.due("nothing changes", x.about(0, 10), 1);
        x.image();
        x.give(0, 2);
        Check.due("there is one", x.restore(), true);
        Check.due("as it was", x.about(0, 10), 1);
        Check.gate(x, 0, "?");
        Check.due("a fault leaves it", x.restore(), true);
        x.gate(1, 0);
        Check.due("a gate doesn't", x.restore(), false);
        Check.due("nothing changes", x.about(0, 10), 1);
    }

    /** Two sorts give 3 and 1, a third and two thirds; all that can be told is told. */
    private static GateBox made() {
        return Check.made("sort 1 worth 9 purse 9 gives 3;sort 2 worth 9 purse 9 gives 1;sight 2;card 4;least 1;thief 50 9;");
    }
}
