/** The sentences of the document's part 4 that name an edge: BOOKS, GUESSES, days DRAWN, the thief, STATUS, IMAGES. */
final class EdgesBookTest {
    public static void main(String[] args) {
        twoHundredGifts();
        fromTheSeedOn();
        stateNow();
        explained();
        asTheGateIsSetNow();
        surelyAndPerhaps();
        strange();
        fewest();
        fewestOfLikeOnes();
        guessOdds();
        likeShares();
        oneAtLeast();
        millionths();
        manyGifts();
        persons();
        roomInTheBook();
        seedWraps();
        bits();
        firstSortThatIsMore();
        behindAFullBook();
        eachTenth();
        boundOrMore();
        belowChance();
        aDrawIsTaken();
        status();
        imageKeeps();
        imageKeepsNoMore();
        Check.end();
    }

    private static void twoHundredGifts() {
        Check.sentence("GIFTS told, one behind the other (at most 200)");
        GateBox x = new GateBox();
        for (int i = 1; i <= 200; i++) {
            Check.due("give " + i, x.give(0, i * i % 10), i);
        }
        Check.due("one more", x.give(0, 5), -1);
        Check.due("how many", x.about(0, 10), 200);
        Check.due("the last", x.given(0, 199, 0), 0);
        Check.due("the one ahead", x.given(0, 198, 0), 1);
        Check.due("the first", x.given(0, 0, 0), 1);
        Check.noSuch("given(0, 200, 0)", () -> x.given(0, 200, 0));
        Check.due("all are strange", x.strange(0), 200);
        Check.due("the other book has room", x.give(1, 5), 1);
        x.seed(0, 3);
        Check.due("a book begun anew has room", x.give(0, 5), 1);
    }

    private static void fromTheSeedOn() {
        Check.sentence("from the SEED on.");
        GateBox x = Check.made("sight 2;");
        x.seed(0, 99);
        x.give(0, 0);
        x.give(0, 5);
        x.give(0, 0);
        int[] due = {99, 90, 5};
        for (int i = 0; i < 3; i++) {
            Check.due("the state ahead of " + i, x.given(0, i, 1), due[i]);
        }
        Check.noSuch("behind the last", () -> x.given(0, 3, 1));
        Check.noSuch("an empty book", () -> x.given(1, 0, 1));
    }

    private static void stateNow() {
        Check.sentence("THE STATE NOW: the SEED at first, then on with each GIFT that is told or DRAWN.");
        GateBox x = Check.made(sort(1, "8") + "sight 2;");
        Check.due("at first", x.about(0, 13), 0);
        x.seed(0, 36);
        Check.due("the seed", x.about(0, 13), 36);
        x.give(0, 9);
        Check.due("told", x.about(0, 13), 69);
        x.drawn(0, 1, 7);
        Check.due("drawn", x.about(0, 13), 98);
        x.give(0, 10);
        x.give(0, -1);
        Check.due("a refused gift doesn't count", x.about(0, 13), 98);
        x.empty(0);
        x.set(0, 0);
        Check.due("nor do others", x.about(0, 13), 98);
        Check.due("the seed stays", x.about(0, 9), 36);
    }

    private static void explained() {
        Check.sentence("EXPLAINED is a GIFT by a SORT that GIVES it in that STATE");
        GateBox x = Check.made(sort(1, "last") + sort(1, "0") + "sort 1 worth 0 purse 9 gives 0;" + sort(1, "9") + sort(1, "9")
                + sort(1, "9-last") + sort(1, "5") + sort(1, "last+1") + "glass;");
        int[] gifts = {0, 0, 9, 9, 0, 1, 2, 5, 5};
        // the state ahead: 0, 0, 0, 9, 9, 0, 1, 2, 5
        int[] masks = {7, 7, 56, 153, 38, 128, 128, 64, 65};
        for (int i = 0; i < gifts.length; i++) {
            x.give(0, gifts[i]);
        }
        for (int i = 0; i < gifts.length; i++) {
            Check.due("given(0, " + i + ", 2)", x.given(0, i, 2), masks[i]);
        }
    }

    private static void asTheGateIsSetNow() {
        Check.sentence("(as the GATE is set now)");
        GateBox x = Check.made(sort(1, "card+keeper*2") + "sort 1 worth 0 purse 9 gives 0;");
        x.give(0, 0);
        x.give(0, 3);
        x.give(0, 2);
        int[] settings = {0, 22, 4, 44, 132, 132 + 22, 24};
        int[][] masks = {{3, 0, 0}, {2, 0, 1}, {2, 1, 0}, {0, 0, 0}, {0, 1, 0}, {0, 1, 0}, {2, 1, 0}};
        for (int i = 0; i < settings.length; i++) {
            x.set(0, settings[i]);
            for (int j = 0; j < 3; j++) {
                Check.due("setting " + settings[i] + ": given(0, " + j + ", 2)", x.given(0, j, 2), masks[i][j]);
            }
        }
        x.set(0, 44);
        Check.due("who is kept away explains no gift of 0", x.who(0, 1, 1), 0);
        Check.due("all are strange", x.strange(0), 3);
    }

    private static void surelyAndPerhaps() {
        Check.sentence("SURELY of a SORT: GIFTS that it alone EXPLAINS; PERHAPS: all that it does.");
        GateBox x = Check.made(sort(1, "1") + sort(1, "1+(last=1)") + sort(1, "3") + "glass;");
        Check.due("an empty book", x.who(0, 0, 0), 0);
        Check.due("an empty book", x.who(0, 0, 1), 0);
        for (int gift : new int[] {1, 1, 2, 3, 1, 2, 9}) {
            x.give(0, gift);
        }
        // 1 by both, behind a 1 by the first alone, 2 by the second, 3 by the third, 1 by both, 2 by the second, 9 by none
        int[] masks = {3, 1, 2, 4, 3, 2, 0};
        for (int i = 0; i < masks.length; i++) {
            Check.due("given(0, " + i + ", 2)", x.given(0, i, 2), masks[i]);
        }
        int[][] due = {{1, 3}, {2, 4}, {1, 1}};
        for (int sort = 0; sort < 3; sort++) {
            Check.due("surely " + sort, x.who(0, sort, 0), due[sort][0]);
            Check.due("perhaps " + sort, x.who(0, sort, 1), due[sort][1]);
        }
    }

    private static void strange() {
        Check.sentence("STRANGE: those that none EXPLAINS.");
        GateBox x = Check.made(sort(1, "4"));
        Check.due("an empty book", x.strange(0), 0);
        x.give(0, 4);
        Check.due("explained", x.strange(0), 0);
        x.give(0, 3);
        x.give(0, 5);
        Check.due("two aren't", x.strange(0), 2);
        x.give(1, 0);
        Check.due("without sorts", x.strange(1), 1);
    }

    private static void fewest() {
        Check.sentence("FEWEST: SORTS, as few as can be, by which each GIFT that isn't STRANGE is EXPLAINED");
        GateBox x = Check.made(sort(1, "0") + sort(1, "1") + sort(1, "2") + sort(1, "3") + sort(1, "4") + sort(1, "5") + sort(1, "6") + sort(1, "7"));
        Check.due("an empty book", x.fewest(0), 0);
        x.give(0, 8);
        Check.due("all are strange", x.fewest(0), 0);
        int due = 0;
        for (int gift : new int[] {7, 0, 3, 3, 1, 6, 2, 5, 4}) {
            x.give(0, gift);
            due |= 1 << gift;
            Check.due("behind a gift of " + gift, x.fewest(0), due);
        }
        // the one that explains most isn't among the fewest: 1 to 4 beside 1 2 5 and 3 4 6
        GateBox y = Check.made(sort(1, "(last<4)*(last+1)") + sort(1, "(last<2 or last=4)*(last+1)") + sort(1, "(last=2 or last=3 or last=5)*(last+1)") + "glass;");
        for (int gift = 1; gift <= 6; gift++) {
            y.give(0, gift);
        }
        Check.due("the greatest isn't among them", y.fewest(0), 6);
        y.give(1, 3);
        Check.due("without sorts", y.fewest(1), 0);
    }

    private static void fewestOfLikeOnes() {
        Check.sentence("of like ones the least as bits.");
        GateBox x = Check.made(sort(1, "1") + sort(1, "2") + sort(1, "1") + sort(1, "2"));
        x.give(0, 1);
        Check.due("0 or 2", x.fewest(0), 1);
        x.give(0, 2);
        Check.due("0 1, 0 3, 1 2, 2 3", x.fewest(0), 3);
        GateBox y = Check.made(sort(1, "(last=0)*1+(last=1)*2") + sort(1, "(last=0)*1+(last=2)*3") + sort(1, "(last=1)*2+(last=3)*4")
                + sort(1, "(last=2)*3+(last=3)*4") + "glass;");
        for (int gift = 1; gift <= 4; gift++) {
            y.give(0, gift);
        }
        // 0 and 3 explain all, so do 1 and 2: 9 and 6
        Check.due("9 and 6", y.fewest(0), 6);
        GateBox z = Check.made(sort(1, "1").repeat(8));
        z.give(0, 1);
        Check.due("any of eight", z.fewest(0), 1);
    }

    private static void guessOdds() {
        Check.sentence("GUESSES 0 to 3: of each SORT other ODDS (0 to 99 each; 0 at first).");
        GateBox x = Check.made(sort(1, "1").repeat(8));
        for (int guess = 0; guess < 4; guess++) {
            Check.due("at first", x.credit(0, guess), -1);
        }
        Check.due("odds of 0", x.guess(0, 0, 7, 0), true);
        Check.due("that tells none", x.credit(0, 0), -1);
        Check.due("odds of 99", x.guess(0, 0, 7, 99), true);
        Check.due("told", x.credit(0, 0), 1000000);
        Check.due("odds of 100", x.guess(0, 3, 7, 100), false);
        Check.due("odds of -1", x.guess(0, 3, 7, -1), false);
        Check.due("odds of MAX", x.guess(0, 3, 7, Integer.MAX_VALUE), false);
        Check.due("odds of MIN", x.guess(0, 3, 7, Integer.MIN_VALUE), false);
        Check.due("not told", x.credit(0, 3), -1);
        Check.due("odds of 1", x.guess(0, 3, 0, 1), true);
        Check.due("told", x.credit(0, 3), 500000);
        Check.due("told no more", x.guess(0, 0, 7, 0), true);
        Check.due("told no more", x.credit(0, 0), -1);
        Check.due("it has all", x.credit(0, 3), 1000000);
        Check.due("told for one gate", x.credit(1, 3), -1);
        Check.noSuch("guess 4", () -> x.guess(0, 4, 0, 1) ? 1 : 0);
        Check.noSuch("guess -1", () -> x.guess(0, -1, 0, 1) ? 1 : 0);
        Check.noSuch("credit of 4", () -> x.credit(0, 4));
        Check.noSuch("credit of -1", () -> x.credit(0, -1));
    }

    private static void likeShares() {
        Check.sentence("CREDIT of those told (some ODDS above 0): at first like shares of 1,000,000 (cut down)");
        GateBox x = Check.made(sort(1, "1") + sort(1, "2"));
        int[] due = {1000000, 500000, 333333, 250000};
        for (int told = 0; told < 4; told++) {
            x.guess(0, told, told % 2, 1 + told);
            for (int guess = 0; guess < 4; guess++) {
                Check.due(told + 1 + " told: credit of " + guess, x.credit(0, guess), guess <= told ? due[told] : -1);
            }
        }
    }

    private static void oneAtLeast() {
        Check.sentence("each is made itself times (1000 times its ODDS of SORTS that EXPLAIN it, divided by all its ODDS, cut down, 1 at least)");
        GateBox x = Check.made(sort(1, "1") + sort(1, "2") + sort(1, "1"));
        x.guess(0, 0, 0, 99);
        x.guess(0, 1, 1, 99);
        x.give(0, 1);
        // 1000 beside 1
        Check.due("it explains all", x.credit(0, 0), 999000);
        Check.due("it explains nothing", x.credit(0, 1), 999);
        // 1 and 99 of 199: 1000 * 100 / 199 = 502, beside 1
        x.guess(0, 0, 0, 1);
        x.guess(0, 0, 1, 99);
        x.guess(0, 0, 2, 99);
        Check.due("502 beside 1", x.credit(0, 0), 998011);
        Check.due("1 beside 502", x.credit(0, 1), 1988);
        // a third, cut down: 333 beside 1000
        GateBox y = Check.made(sort(1, "1") + sort(1, "2"));
        y.guess(0, 2, 0, 1);
        y.guess(0, 2, 1, 2);
        y.guess(0, 3, 0, 7);
        y.give(0, 1);
        Check.due("333 beside 1000", y.credit(0, 2), 249812);
        Check.due("1000 beside 333", y.credit(0, 3), 750187);
        // who is kept away explains nothing
        GateBox z = Check.made("sort 1 worth 0 purse 9 gives 0;" + sort(1, "0"));
        z.guess(0, 0, 0, 5);
        z.guess(0, 1, 1, 5);
        z.give(0, 0);
        Check.due("both explain it", z.credit(0, 0), 500000);
        z.set(0, 44);
        Check.due("now it is strange, 1 beside 1", z.credit(0, 0), 500000);
        z.seed(0, 0);
        z.give(0, 1);
        Check.due("kept away", z.credit(0, 0), 999);
        Check.due("gives the least", z.credit(0, 1), 999000);
    }

    private static void millionths() {
        Check.sentence("and becomes that in millionths of all these together, cut down.");
        GateBox x = Check.made(sort(1, "1") + sort(1, "2"));
        x.guess(0, 0, 0, 1);
        x.guess(0, 0, 1, 1);
        x.guess(0, 1, 0, 1);
        x.guess(0, 3, 1, 1);
        x.give(0, 2);
        // a third each times 500, 1 and 1000: 333132, 666 and 666222 millionths
        Check.due("500", x.credit(0, 0), 333111);
        Check.due("1", x.credit(0, 1), 666);
        Check.due("1000", x.credit(0, 3), 666222);
        Check.due("not told", x.credit(0, 2), -1);
        // then times 500, 1000 and 1: 166555500, 666000, 666222 of 167887722
        x.give(0, 1);
        Check.due("500 and 500", x.credit(0, 0), 992064);
        Check.due("1 and 1000", x.credit(0, 1), 3966);
        Check.due("1000 and 1", x.credit(0, 3), 3968);
    }

    private static void manyGifts() {
        Check.sentence("with each GIFT of the BOOK");
        GateBox x = Check.made(sort(1, "1") + sort(1, "2"));
        x.guess(0, 0, 0, 1);
        x.guess(0, 1, 1, 1);
        x.give(0, 1);
        x.give(0, 1);
        Check.due("the second time less than a millionth is left", x.credit(0, 1), 0);
        Check.due("999000 of 999000.999", x.credit(0, 0), 999999);
        x.give(0, 1);
        Check.due("all there is", x.credit(0, 0), 1000000);
        for (int i = 3; i < 200; i++) {
            x.give(0, 2);
        }
        Check.due("nothing comes from nothing", x.credit(0, 1), 0);
        Check.due("it stays with all", x.credit(0, 0), 1000000);
    }

    private static void persons() {
        Check.sentence("DRAWN: so many persons (1 to 400) of a GATE");
        GateBox x = Check.made(sort(1, "9") + "thief 0 1;");
        Check.notAsTold("drawn(0, 0, 1)", () -> x.drawn(0, 0, 1));
        Check.notAsTold("drawn(0, 401, 1)", () -> x.drawn(0, 401, 1));
        Check.notAsTold("drawn(0, -1, 1)", () -> x.drawn(0, -1, 1));
        Check.due("nothing came", x.about(0, 11), 0);
        Check.due("one", x.drawn(0, 1, 1), 9);
        Check.due("400", x.drawn(0, 400, 1), 3600);
        Check.due("the box", x.about(0, 11), 3609);
    }

    private static void roomInTheBook() {
        Check.sentence("its GIFTS go into its BOX and (as long as there is room) its BOOK.");
        GateBox x = Check.made(sort(1, "3"));
        for (int i = 0; i < 198; i++) {
            x.give(0, 7);
        }
        Check.due("told gifts aren't in the box", x.about(0, 11), 0);
        x.drawn(0, 1, 1);
        Check.due("the 199th", x.about(0, 10), 199);
        x.drawn(0, 3, 1);
        Check.due("the 200th", x.about(0, 10), 200);
        Check.due("it", x.given(0, 199, 0), 3);
        Check.due("the box has all four", x.about(0, 11), 12);
        Check.due("a drawn gift without room isn't refused", x.count(2), 0);
    }

    private static void seedWraps() {
        Check.sentence("A seed becomes itself times 1103515245 and 12345 (an int that wraps)");
        GateBox x = Check.made(sort(99, "0") + sort(99, "1") + sort(99, "2") + sort(99, "3") + sort(99, "4") + sort(99, "5") + sort(99, "6") + sort(99, "7")
                + "thief 0 999;");
        int[] seeds = {0, 1, -1, Integer.MAX_VALUE, Integer.MIN_VALUE, 12345, -12345, 1103515245, 65536, 0x12345678};
        for (int seed : seeds) {
            x.seed(0, 0);
            x.empty(0);
            x.drawn(0, 40, seed);
            for (int i = 0; i < 40; i += 13) {
                long known = seed & 0xffffffffL;
                for (int k = 0; k <= i; k++) {
                    known = known * 1103515245L + 12345 & 0xffffffffL;
                }
                Check.due("seed " + seed + ": person " + i, x.given(0, i, 0), (known >> 16 & 32767) % 792 / 99);
            }
        }
    }

    private static void bits() {
        Check.sentence("a DRAW of n is its bits 16 to 30 MOD n then");
        // 792 odds in all: 32767 MOD 792 is 295, in the third 99
        drawnBy(0x00000000, 0);
        drawnBy(0x0000ffff, 0);
        drawnBy(0x80000000, 0);
        drawnBy(0x00010000, 0);
        drawnBy(99 << 16, 1);
        drawnBy(99 << 16 | 0x80000000, 1);
        drawnBy((99 << 16) - 1, 0);
        drawnBy(791 << 16, 7);
        drawnBy(792 << 16, 0);
        drawnBy(0x7fffffff, 2);
        drawnBy(0xffffffff, 2);
        drawnBy(0x7fff0000, 2);
        drawnBy(0x40000000, 16384 % 792 / 99);
    }

    /** One person by the seed behind which comes this one: what he gives is the number of his sort. */
    private static void drawnBy(int behind, int sort) {
        GateBox x = Check.made(sort(99, "0") + sort(99, "1") + sort(99, "2") + sort(99, "3") + sort(99, "4") + sort(99, "5") + sort(99, "6") + sort(99, "7"));
        Check.due("a seed that becomes " + Integer.toHexString(behind), x.drawn(0, 1, Check.back(behind, 1)), sort);
    }

    private static void firstSortThatIsMore() {
        Check.sentence("the first SORT by which ODDS up to it, together, are more.");
        GateBox x = Check.made(sort(1, "1") + sort(2, "2") + sort(3, "3") + sort(94, "4"));
        int[] draws = {0, 1, 2, 3, 4, 5, 6, 7, 99, 100, 102, 199};
        int[] due = {1, 2, 2, 3, 3, 3, 4, 4, 4, 1, 2, 4};
        for (int i = 0; i < draws.length; i++) {
            Check.due("a draw of " + draws[i], x.drawn(0, 1, Check.back(draws[i] << 16, 1)), due[i]);
        }
    }

    private static void behindAFullBook() {
        Check.sentence("(THE STATE NOW goes on also behind a full BOOK.)");
        GateBox x = Check.made(sort(1, "last+1-(last=9)*9") + "glass;sight 2;");
        for (int i = 0; i < 200; i++) {
            x.give(0, 4);
        }
        Check.due("five behind 4", x.drawn(0, 5, 1), 5 + 6 + 7 + 8 + 9);
        Check.due("the state now", x.about(0, 13), 89);
        Check.due("one more", x.drawn(0, 1, 1), 1);
        Check.due("the state now", x.about(0, 13), 91);
        Check.due("the book", x.about(0, 10), 200);
        Check.due("its last gift", x.given(0, 199, 0), 4);
        Check.due("told it doesn't", x.give(0, 7), -1);
        Check.due("the state now", x.about(0, 13), 91);
    }

    private static void eachTenth() {
        Check.sentence("Behind each tenth person (of this call)");
        String always = "thief 100 1;";
        int[] persons = {1, 9, 10, 11, 19, 20, 21, 400};
        int[] stolen = {0, 0, 30, 30, 30, 60, 60, 1200};
        for (int i = 0; i < persons.length; i++) {
            GateBox x = Check.made(sort(1, "3") + always);
            Check.due(persons[i] + " persons give", x.drawn(0, persons[i], 5), 3 * persons[i]);
            Check.due("stolen of " + persons[i], x.about(0, 12), stolen[i]);
            Check.due("the box of " + persons[i], x.about(0, 11), 3 * persons[i] - stolen[i]);
        }
        GateBox y = Check.made(sort(1, "3") + always);
        y.drawn(0, 9, 5);
        y.drawn(0, 1, 5);
        y.drawn(0, 9, 5);
        Check.due("19 persons of three calls", y.about(0, 12), 0);
        Check.due("their box", y.about(0, 11), 57);
        // who is kept away counts as a person, too
        GateBox z = Check.made("sort 1 worth 0 purse 9 gives 3-3*glass;" + always);
        z.drawn(0, 1, 5);
        z.set(0, 132 + 11);
        Check.due("nine are kept away", z.drawn(0, 9, 5), 0);
        Check.due("the box", z.about(0, 11), 3);
        Check.due("ten are kept away", z.drawn(0, 10, 5), 0);
        Check.due("the thief came", z.about(0, 12), 3);
    }

    private static void boundOrMore() {
        Check.sentence("if the BOX has BOUND or more");
        int[] bounds = {1, 29, 30, 31, 999};
        int[] stolen = {30, 30, 30, 0, 0};
        for (int i = 0; i < bounds.length; i++) {
            GateBox x = Check.made(sort(1, "3") + "thief 100 " + bounds[i] + ";");
            x.drawn(0, 10, 5);
            Check.due("bound " + bounds[i], x.about(0, 12), stolen[i]);
            Check.due("the box", x.about(0, 11), 30 - stolen[i]);
        }
        GateBox y = Check.made(sort(1, "0") + "thief 100 1;");
        y.drawn(0, 10, 5);
        Check.due("an empty box", y.about(0, 12), 0);
        // untold it is 100, and the chance 0
        GateBox z = Check.made(sort(1, "9"));
        z.drawn(0, 400, 5);
        Check.due("nothing is told of a thief", z.about(0, 11), 3600);
        // behind the 330th it has 990, behind the 340th 1020
        GateBox w = Check.made(sort(1, "3") + "thief 100 999;");
        w.drawn(0, 400, 5);
        Check.due("a bound of 999", w.about(0, 12), 1020);
    }

    private static void belowChance() {
        Check.sentence("below CHANCE all that is in it is STOLEN.");
        // the eleventh draw is the thief's: 32767 MOD 100 is 67, 32700 MOD 100 is 0, 32699 MOD 100 is 99
        int[] draws = {32767, 32767, 32700, 32700, 32700, 32699, 32699, 32767, 0};
        int[] chances = {67, 68, 0, 1, 100, 99, 100, 66, 1};
        int[] stolen = {0, 30, 0, 30, 30, 0, 30, 0, 30};
        for (int i = 0; i < draws.length; i++) {
            GateBox x = Check.made(sort(1, "3") + "thief " + chances[i] + " 30;");
            x.drawn(0, 10, Check.back(draws[i] << 16, 11));
            Check.due("a draw of " + draws[i] + ", chance " + chances[i], x.about(0, 12), stolen[i]);
            Check.due("what is left", x.about(0, 11), 30 - stolen[i]);
        }
    }

    private static void aDrawIsTaken() {
        Check.sentence("if the BOX has BOUND or more, a DRAW of 100");
        // the eleventh person is drawn by the eleventh draw, by the twelfth if the thief took one
        String sorts = sort(1, "1") + sort(99, "9");
        int seed = Check.back(0, 12);
        Check.due("the eleventh draw isn't of the first sort", (Check.back(0, 1) >>> 16 & 32767) % 100 > 0, true);
        GateBox x = Check.made(sorts + "thief 0 10;");
        x.drawn(0, 11, seed);
        Check.due("bound 10: the twelfth draw", x.given(0, 10, 0), 1);
        GateBox y = Check.made(sorts + "thief 0 91;");
        y.drawn(0, 11, seed);
        Check.due("bound 91: the eleventh draw", y.given(0, 10, 0), 9);
    }

    private static void status() {
        Check.sentence("STATUS: how many calls were refused: 0 of TEXTS with a FAULT, 1 of GIFTS, 2 of GUESSES"
                + " (not counted where an exception tells it).");
        GateBox x = Check.made(sort(1, "1"));
        counted(x, 0, 0, 0);
        Check.gate(x, 0, "x");
        counted(x, 1, 0, 0);
        Check.gate(x, 1, "sight 3;");
        Check.gate(x, 1, "sight 2;");
        counted(x, 2, 0, 0);
        Check.notAsTold("a text that isn't there", () -> x.gate(0, 1));
        Check.notAsTold("a text of less than nothing", () -> x.gate(0, -1));
        Check.noSuch("a text of no gate", () -> x.gate(2, 0));
        counted(x, 2, 0, 0);
        x.give(0, 10);
        counted(x, 2, 1, 0);
        x.give(1, -1);
        counted(x, 2, 2, 0);
        x.give(1, 5);
        Check.noSuch("a gift for no gate", () -> x.give(2, 10));
        counted(x, 2, 2, 0);
        x.guess(0, 0, 0, 100);
        counted(x, 2, 2, 1);
        x.guess(0, 0, 0, -1);
        counted(x, 2, 2, 2);
        x.guess(0, 0, 0, 99);
        Check.noSuch("no such guess", () -> x.guess(0, 4, 0, 100) ? 1 : 0);
        Check.noSuch("no such sort", () -> x.guess(0, 0, 1, 100) ? 1 : 0);
        Check.noSuch("no such gate", () -> x.guess(2, 0, 0, 100) ? 1 : 0);
        x.feed(0, 0, 0, 0, 0);
        counted(x, 2, 2, 2);
        GateBox y = new GateBox();
        for (int i = 0; i < 200; i++) {
            y.give(0, 1);
        }
        counted(y, 0, 0, 0);
        y.give(0, 1);
        counted(y, 0, 1, 0);
        for (int i = 0; i < 36; i++) {
            y.feed(0, 0, 0, 0, 0);
        }
        counted(y, 0, 1, 0);
    }

    private static void counted(GateBox x, int texts, int gifts, int guesses) {
        Check.due("count(1)", x.count(1), texts);
        Check.due("count(2)", x.count(2), gifts);
        Check.due("count(3)", x.count(3), guesses);
    }

    private static void imageKeeps() {
        Check.sentence("AN IMAGE keeps BOOKS, BOXES, what was STOLEN, GUESSES, SEEDS, STATES NOW, STATUS.");
        String text = sort(1, "4") + "sight 2;thief 100 30;";
        GateBox x = Check.made(text);
        Check.due("the other gate", Check.gate(x, 1, text), 0);
        for (int gate = 0; gate < 2; gate++) {
            x.seed(gate, 5 + gate);
            x.drawn(gate, 11, 1);
            x.give(gate, 7 + gate);
            x.guess(gate, gate, 0, 5);
        }
        x.give(0, 10);
        x.guess(0, 0, 0, 100);
        x.guess(0, 0, 0, 100);
        String kept = Check.seen(x);
        x.image();
        for (int gate = 0; gate < 2; gate++) {
            x.seed(gate, 90);
            x.give(gate, 9);
            x.give(gate, 2);
            x.drawn(gate, 25, 1);
            x.empty(gate);
            x.drawn(gate, 1, 1);
            x.give(gate, 3);
            x.guess(gate, gate, 0, 0);
            x.guess(gate, 3, 0, 1);
            x.give(gate, -1);
            x.guess(gate, 3, 0, -1);
        }
        Check.due("restore()", x.restore(), true);
        Check.due("as it was", Check.seen(x), kept);
        x.seed(0, 0);
        x.drawn(1, 9, 1);
        Check.due("once more", x.restore(), true);
        Check.due("as it was", Check.seen(x), kept);
        // a full book, and the state now that went on behind it
        GateBox y = Check.made(text);
        y.drawn(0, 201, 1);
        y.seed(1, 3);
        y.image();
        y.seed(0, 11);
        y.seed(1, 4);
        y.restore();
        Check.due("the book", y.about(0, 10), 200);
        Check.due("its last gift", y.given(0, 199, 0), 4);
        Check.due("the state now", y.about(0, 13), 44);
        Check.due("the seed", y.about(1, 9), 3);
    }

    private static void imageKeepsNoMore() {
        Check.sentence("AN IMAGE keeps BOOKS, BOXES ..");
        GateBox x = Check.made(sort(1, "4"));
        x.image();
        x.set(0, 175);
        Check.gate(x, 0, "?");
        Check.feed(x, "keeper;");
        Check.due("restore()", x.restore(), true);
        Check.due("the setting stays", x.about(0, 2), 9);
        Check.due("the tape stays", x.count(0), 20);
        Check.due("the place of the fault stays", x.fault(), 0);
        Check.due("status is as it was", x.count(1), 0);
    }

    private static String sort(int odds, String expr) {
        return "sort " + odds + " worth 99 purse 9 gives " + expr + ";";
    }
}
