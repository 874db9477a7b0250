/** The sentences of the document's part 3 that name an edge: SETTINGS, the best of them, prices, gates near one another. */
final class EdgesSettingTest {
    public static void main(String[] args) {
        settings();
        inPlaceOfItsOwn();
        best();
        ofLikeOnesTheLeast();
        bestCard();
        bestSeed();
        paysIt();
        taken();
        bestPrice();
        sooner();
        keptAwayByPrice();
        mixed();
        mixedIsCutDown();
        nothingOfItIsRemembered();
        keptAwayThereToo();
        goesBy();
        purseIsLess();
        inItsExprToo();
        manyCouples();
        nearCoin();
        nearAway();
        Check.end();
    }

    private static void settings() {
        Check.sentence("A SETTING 0 to 175 of a GATE: LEAST (by 44: 0 to 3), KEEPER (by 22, MOD 2), GLASS (by 11, MOD 2),"
                + " CARD (MOD 11: 0 none, else its number and 1)");
        GateBox x = new GateBox();
        for (int setting = 0; setting < 176; setting++) {
            if (setting % 60 == 0) {
                x = Check.made(sort("9") + "card 9;least 9;");
            }
            Check.due("set(0, " + setting + ")", x.set(0, setting), true);
            int told = x.about(0, 5) * 44 + x.about(0, 3) * 22 + x.about(0, 4) * 11 + x.about(0, 2) + 1;
            Check.due("what is told of setting " + setting, told, setting);
        }
        GateBox y = Check.made("card 9;least 9;keeper;");
        Check.noSuch("set(0, 176)", () -> y.set(0, 176) ? 1 : 0);
        Check.noSuch("set(0, -1)", () -> y.set(0, -1) ? 1 : 0);
        Check.noSuch("set(0, MAX)", () -> y.set(0, Integer.MAX_VALUE) ? 1 : 0);
        Check.due("the least stays", y.about(0, 5), 9);
        Check.due("the card stays", y.about(0, 2), 9);
        Check.due("the keeper stays", y.about(0, 3), 1);
    }

    private static void inPlaceOfItsOwn() {
        Check.sentence("in place of its own; all else stays.");
        GateBox x = Check.made(sort("9") + "sight 2;card 9;keeper;glass;least 9;thief 7 8;");
        x.seed(0, 31);
        x.give(0, 9);
        x.drawn(0, 1, 1);
        x.guess(0, 1, 0, 7);
        int[] due = {1, 2, -1, 0, 0, 0, 7, 8, 1, 31, 2, 9, 0, 99};
        x.set(0, 0);
        for (int what = 0; what < due.length; what++) {
            Check.due("setting 0: about(0, " + what + ")", x.about(0, what), due[what]);
        }
        Check.due("the guess", x.credit(0, 1), 1000000);
        Check.due("the gift", x.given(0, 0, 0), 9);
        Check.due("the other gate", x.about(1, 5), 0);
        x.set(0, 175);
        int[] most = {1, 2, 9, 1, 1, 3, 7, 8, 1, 31, 2, 9, 0, 99};
        for (int what = 0; what < most.length; what++) {
            Check.due("setting 175: about(0, " + what + ")", x.about(0, what), most[what]);
        }
        // would() asks about a setting and doesn't set it
        Check.due("would(0, 0, 1)", x.would(0, 0, 1), 9000);
        x.best(0, 2, 0, 0);
        x.card(0, 2);
        x.seeded(0, 2);
        for (int what = 0; what < most.length; what++) {
            Check.due("still 175: about(0, " + what + ")", x.about(0, what), most[what]);
        }
    }

    private static void best() {
        Check.sentence("BEST by n persons and a bound: of SETTINGS with AWAY no more than the bound that of most COIN");
        // with each least he who can gives more, and by 2 and by 3 another third is kept away
        GateBox x = Check.made("sort 1 worth 9 purse 9 gives least*least;sort 1 worth 2 purse 9 gives 0;sort 1 worth 1 purse 9 gives 0;");
        Check.due("would least 0", x.would(0, 0, 1), 0);
        Check.due("would least 1", x.would(0, 44, 1), 1000);
        Check.due("would least 2", x.would(0, 88, 1), 1999);
        Check.due("would least 3", x.would(0, 132, 1), 2999);
        int[] bounds = {-1, 0, 332, 333, 665, 666, 999999, Integer.MAX_VALUE, Integer.MIN_VALUE};
        int[] due = {-1, 44, 44, 88, 88, 132, 132, 132, -1};
        int[] coins = {-1, 1000, 1000, 1999, 1999, 2999, 2999, 2999, -1};
        for (int i = 0; i < bounds.length; i++) {
            Check.due("best(0, 1, " + bounds[i] + ", 0)", x.best(0, 1, bounds[i], 0), due[i]);
            Check.due("best(0, 1, " + bounds[i] + ", 1)", x.best(0, 1, bounds[i], 1), coins[i]);
        }
        Check.due("60 persons", x.best(0, 60, 0, 1), 60000);
        Check.due("60 persons, less than 20 away", x.best(0, 60, 19999, 0), 44);
        Check.due("60 persons, 20 away", x.best(0, 60, 20000, 0), 88);
        Check.due("60 persons, less than 40 away", x.best(0, 60, 39999, 0), 88);
        Check.due("60 persons, 40 away", x.best(0, 60, 40000, 0), 132);
        // the gate's own least of 9 is none of them
        GateBox y = Check.made("sort 1 worth 99 purse 9 gives 0;least 9;");
        Check.due("a least of 3 is the most that is tried", y.best(0, 1, 0, 1), 3000);
        Check.due("the last of them", Check.made(sort("keeper*3+glass*2+card/9+least")).best(0, 1, 0, 0), 175);
    }

    private static void ofLikeOnesTheLeast() {
        Check.sentence("of like ones the least.");
        Check.due("all alike", Check.made(sort("3")).best(0, 1, 0, 0), 0);
        Check.due("nobody comes", Check.made(sort("least")).best(0, 0, 0, 0), 0);
        Check.due("its coin", Check.made(sort("least")).best(0, 0, 0, 1), 0);
        Check.due("a keeper or a glass", Check.made(sort("keeper or glass")).best(0, 1, 0, 0), 132);
        Check.due("cards 3 and 7, above all leasts", Check.made(sort("5*(card=3)+5*(card=7)")).best(0, 1, 0, 0), 4);
        Check.due("any card", Check.made(sort("5*sign")).best(0, 1, 0, 0), 1);
        Check.due("a keeper", Check.made(sort("5*keeper")).best(0, 1, 0, 0), 22);
        Check.due("a glass", Check.made(sort("5*glass")).best(0, 1, 0, 0), 11);
        Check.due("a glass, to see the last", Check.made(sort("4+last")).best(0, 2, 0, 0), 11);
        Check.due("a glass, to see the mean", Check.made(sort("4+mean")).best(0, 2, 0, 0), 11);
        GateBox x = Check.made(sort("5*(card=3)+5*(card=7)"));
        Check.due("of cards", x.card(0, 1), 4);
        GateBox y = Check.made(sort("5*(last=3)+5*(last=7)") + "glass;");
        Check.due("of seeds", y.seeded(0, 1), 3);
    }

    private static void bestCard() {
        Check.sentence("BEST CARD: of 0 (none) to 10 likewise, LEAST, KEEPER, GLASS as they are, without a bound.");
        for (int card = 0; card < 10; card++) {
            GateBox x = Check.made(sort("(card=" + card + ") and sign") + "card 5;");
            Check.due("card " + card, x.card(0, 1), card + 1);
            Check.due("the gate's card stays", x.about(0, 2), 5);
        }
        for (int card = 1; card < 10; card++) {
            Check.due("card " + card + " by its number alone", Check.made(sort("card=" + card)).card(0, 1), card + 1);
            Check.due("of all settings, too", Check.made(sort("9*(card=" + card + ")")).best(0, 1, 0, 0), card + 1);
        }
        Check.due("none has a number above 9", Check.made(sort("9*(9<card)")).card(0, 1), 0);
        Check.due("none", Check.made(sort("1-sign") + "card 5;").card(0, 1), 0);
        Check.due("any", Check.made(sort("1+sign") + "card 5;").card(0, 1), 1);
        Check.due("all alike", Check.made(sort("1") + "card 5;").card(0, 60), 0);
        Check.due("nobody comes", Check.made(sort("card")).card(0, 0), 0);
        Check.due("the keeper is there", Check.made(sort("keeper*(card=4)+(card=6)*(keeper=0)") + "keeper;").card(0, 1), 5);
        Check.due("the keeper isn't there", Check.made(sort("keeper*(card=4)+(card=6)*(keeper=0)")).card(0, 1), 7);
        Check.due("the glass is there", Check.made(sort("glass*(card=4)+(card=6)*(glass=0)") + "glass;").card(0, 1), 5);
        Check.due("the glass isn't there", Check.made(sort("glass*(card=4)+(card=6)*(glass=0)")).card(0, 1), 7);
        Check.due("the least is there", Check.made(sort("9*(least=8)*(card=4)") + "least 8;").card(0, 1), 5);
        Check.due("the least isn't there", Check.made(sort("9*(least=8)*(card=4)") + "least 7;").card(0, 1), 0);
        // without a card both give 1, by the card of 6 one gives 9 and the other is kept away
        Check.due("half are away", Check.made(sort("(card=6)*9") + "sort 1 worth 0 purse 9 gives 1-sign;least 1;").card(0, 1), 7);
    }

    private static void bestSeed() {
        Check.sentence("BEST SEED: the STATE, were it SEED, of most COIN, of like ones the least.");
        GateBox x = Check.made(sort("last") + "glass;");
        x.seed(0, 4);
        Check.due("the greatest state", x.seeded(0, 1), 9);
        Check.due("the seed stays", x.about(0, 9), 4);
        Check.due("nobody comes", x.seeded(0, 0), 0);
        Check.due("60 come", x.seeded(0, 60), 9);
        GateBox y = Check.made(sort("last+mean") + "glass;sight 2;");
        Check.due("6 behind a 0 is enough for 9", y.seeded(0, 1), 6);
        Check.due("of all it is the least", Check.made(sort("9-last") + "glass;").seeded(0, 60), 0);
        Check.due("99", Check.made(sort("mean") + "glass;sight 2;").seeded(0, 60), 99);
        Check.due("without sight", Check.made(sort("last+mean") + "sight 0;glass;").seeded(0, 60), 0);
        Check.due("no state is above 9", Check.made(sort("9*(9<mean)") + "glass;").seeded(0, 1), 0);
        Check.due("without glass", Check.made(sort("last")).seeded(0, 60), 0);
    }

    private static void paysIt() {
        Check.sentence("A PRICE p (0 to 9): a SORT pays it, if WORTH and PURSE are no less, else it is KEPT AWAY");
        GateBox x = Check.made("sort 1 worth 5 purse 9 gives 0;");
        GateBox y = Check.made("sort 1 worth 99 purse 5 gives 0;");
        for (int price = 0; price < 10; price++) {
            Check.due("worth 5: price " + price, x.price(0, price, 0), price <= 5 ? 1000 * price : 0);
            Check.due("purse 5: price " + price, y.price(0, price, 0), price <= 5 ? 1000 * price : 0);
            Check.due("worth 5: kept away", x.price(0, price, 2), price <= 5 ? 0 : 1000);
            Check.due("purse 5: kept away", y.price(0, price, 2), price <= 5 ? 0 : 1000);
        }
        Check.noSuch("price(0, 10, 0)", () -> x.price(0, 10, 0));
        Check.noSuch("price(0, -1, 0)", () -> x.price(0, -1, 0));
        // the gate's least doesn't bind a price
        Check.due("least 9", Check.made("sort 1 worth 5 purse 5 gives 0;least 9;").price(0, 5, 0), 5000);
    }

    private static void taken() {
        Check.sentence("TAKEN by 1000 persons: 1000 times p times ODDS of those who pay, divided by all ODDS, cut down.");
        GateBox x = Check.made("sort 2 worth 9 purse 9 gives 0;sort 1 worth 0 purse 9 gives 0;");
        Check.due("two thirds of 1", x.price(0, 1, 0), 666);
        Check.due("two thirds of 2", x.price(0, 2, 0), 1333);
        Check.due("two thirds of 9", x.price(0, 9, 0), 6000);
        Check.due("a price of 0", x.price(0, 0, 0), 0);
        Check.due("nobody pays", Check.made("sort 1 worth 0 purse 0 gives 0;").price(0, 1, 0), 0);
        Check.due("the most", Check.made("sort 99 worth 99 purse 9 gives 0;".repeat(8)).price(0, 9, 0), 9000);
        Check.due("without sorts", new GateBox().price(0, 9, 0), 0);
    }

    private static void bestPrice() {
        Check.sentence("BEST PRICE: that of most TAKEN, of like ones the least.");
        Check.due("without sorts", new GateBox().priced(0), 0);
        Check.due("nobody pays anything", Check.made("sort 1 worth 0 purse 9 gives 9;").priced(0), 0);
        Check.due("1", Check.made("sort 1 worth 1 purse 9 gives 0;").priced(0), 1);
        Check.due("9", Check.made("sort 1 worth 99 purse 9 gives 0;").priced(0), 9);
        Check.due("2 by all, 4 by half", Check.made("sort 1 worth 2 purse 9 gives 0;sort 1 worth 4 purse 9 gives 0;").priced(0), 2);
        Check.due("two thirds at 5 are 3333, all at 3 are 3000", Check.made("sort 2 worth 5 purse 9 gives 0;sort 1 worth 3 purse 9 gives 0;").priced(0), 5);
        Check.due("a third at 3 are 1000, as all at 1", Check.made("sort 1 worth 3 purse 9 gives 0;sort 2 worth 1 purse 9 gives 0;").priced(0), 1);
    }

    private static void sooner() {
        Check.sentence("SOONER: ODDS of SORTS that would sooner have no price: those who aren't KEPT AWAY now (at the SEED), and either would be"
                + " by the PRICE, or GIVE less than it now, in thousandths of all, cut down.");
        String rich = "sort 1 worth 9 purse 9 gives ";
        soonerOf(rich + "4;", 4, 0, "gives as much as the price");
        soonerOf(rich + "5;", 4, 0, "gives more");
        soonerOf(rich + "3;", 4, 1000, "gives less");
        soonerOf(rich + "0;", 0, 0, "no price");
        soonerOf("sort 1 worth 3 purse 9 gives 9;", 4, 1000, "it isn't worth it to him, though he gives more");
        soonerOf("sort 1 worth 5 purse 9 gives 9;", 4, 0, "it is worth the price, not what he gives");
        soonerOf("sort 1 worth 9 purse 4 gives 4;", 4, 0, "he can pay it");
        soonerOf("sort 1 worth 9 purse 3 gives 3;", 4, 1000, "he can't pay it");
        soonerOf("sort 1 worth 3 purse 9 gives 3;least 4;", 5, 0, "he is kept away now");
        soonerOf("sort 1 worth 4 purse 9 gives 3;least 4;", 5, 1000, "the least lets him in, not the price");
        soonerOf("sort 1 worth 4 purse 9 gives 3;least 4;", 4, 0, "he gives the least, which is the price");
        soonerOf(rich + "0;sort 2 worth 9 purse 9 gives 9;", 5, 333, "a third, cut down");
        soonerOf("sort 2 worth 9 purse 9 gives 0;sort 1 worth 9 purse 9 gives 9;", 5, 666, "two thirds, cut down");
        GateBox x = Check.made(rich + "last;glass;");
        x.seed(0, 5);
        x.give(0, 2);
        Check.due("at the seed, not at the state now", x.price(0, 5, 1), 0);
        Check.due("at the seed, not at the state now", x.price(0, 6, 1), 1000);
        Check.due("without sorts", x.price(1, 9, 1), 0);
    }

    private static void soonerOf(String text, int price, int due, String why) {
        Check.due(why, Check.made(text).price(0, price, 1), due);
    }

    private static void keptAwayByPrice() {
        Check.sentence("ODDS of those KEPT AWAY in thousandths of all, cut down (2); 0 without SORTS.");
        GateBox x = Check.made("sort 1 worth 9 purse 9 gives 0;sort 1 worth 9 purse 5 gives 0;sort 1 worth 4 purse 9 gives 0;");
        int[] prices = {0, 4, 5, 6, 9};
        int[] due = {0, 0, 333, 666, 666};
        for (int i = 0; i < prices.length; i++) {
            Check.due("price " + prices[i], x.price(0, prices[i], 2), due[i]);
        }
        Check.due("without sorts", x.price(1, 9, 2), 0);
        Check.due("all of them", Check.made("sort 99 worth 0 purse 0 gives 0;".repeat(8)).price(0, 1, 2), 1000);
    }

    private static void mixed() {
        Check.sentence("MIXED: COIN of n persons of whom each e-th (2 to 50) is asked for a PRICE instead");
        GateBox x = Check.made(sort("1"));
        int[][] calls = {{0, 2, 0}, {1, 2, 1000}, {2, 2, 6000}, {3, 2, 7000}, {4, 2, 12000}, {49, 50, 49000}, {50, 50, 54000}, {51, 50, 55000},
            {99, 50, 103000}, {100, 50, 108000}, {400, 50, 432000}, {400, 2, 1200000}, {2, 3, 2000}, {3, 3, 7000}};
        for (int[] call : calls) {
            Check.due("mixed(0, " + call[0] + ", " + call[1] + ", 5)", x.mixed(0, call[0], call[1], 5), call[2]);
        }
        Check.due("a price of 0", x.mixed(0, 2, 2, 0), 1000);
        Check.due("a price of 9", x.mixed(0, 2, 2, 9), 10000);
        Check.due("the most that can be", Check.made(sort("9")).mixed(0, 400, 2, 9), 3600000);
        Check.notAsTold("401 persons", () -> x.mixed(0, 401, 2, 5));
        Check.notAsTold("-1 persons", () -> x.mixed(0, -1, 2, 5));
        Check.notAsTold("each first", () -> x.mixed(0, 4, 1, 5));
        Check.notAsTold("each 0th", () -> x.mixed(0, 4, 0, 5));
        Check.notAsTold("each 51st", () -> x.mixed(0, 4, 51, 5));
        Check.notAsTold("a price of 10", () -> x.mixed(0, 4, 2, 10));
        Check.notAsTold("a price of -1", () -> x.mixed(0, 4, 2, -1));
    }

    private static void mixedIsCutDown() {
        Check.sentence("his parts are 1,000,000,000 times ODDS of those who pay, divided by all ODDS, cut down, each times the PRICE");
        String nothing = " purse 9 gives 0;";
        GateBox x = Check.made("sort 1 worth 9" + nothing + "sort 1 worth 9" + nothing + "sort 1 worth 1" + nothing);
        Check.due("666,666,666 times 3", x.mixed(0, 2, 2, 3), 1999);
        Check.due("three thirds", x.mixed(0, 2, 2, 1), 1000);
        Check.due("200 times 666,666,666 times 9", x.mixed(0, 400, 2, 9), 1199999);
        GateBox y = Check.made(sort("1") + "sort 2 worth 0 purse 9 gives 0;");
        // 333,333,333 given and 333,333,333 by 3 asked for: 1,333,333,332, cut down once
        Check.due("cut down once", y.mixed(0, 2, 2, 3), 1333);
    }

    private static void nothingOfItIsRemembered() {
        Check.sentence("nothing of it is remembered.");
        GateBox x = Check.made(sort("last+1") + "glass;");
        Check.due("1, a price of 9, 2", x.mixed(0, 3, 2, 9), 12000);
        Check.due("1, 9, 2, 9, 3", x.mixed(0, 5, 2, 9), 24000);
        Check.due("1, 2, 0, 3", x.mixed(0, 4, 3, 0), 6000);
        Check.due("the state now", x.about(0, 13), 0);
        Check.due("the book", x.about(0, 10), 0);
    }

    private static void keptAwayThereToo() {
        Check.sentence("NEAR: persons go to GATE 0, then to GATE 1, (those KEPT AWAY there, too)");
        GateBox x = Check.made("sort 1 worth 0 purse 9 gives 0;least 1;");
        Check.gate(x, 1, sort("7"));
        Check.due("at 0", x.near(3, 0), 0);
        Check.due("at 1", x.near(3, 1), 21000);
        Check.due("kept away at 1", x.near(3, 2), 0);
        Check.gate(x, 1, "sort 1 worth 0 purse 9 gives 0;least 1;");
        Check.due("kept away at both", x.near(3, 2), 3000);
        Check.due("the states stay", x.near(3, 1), 0);
        // 5 at first, then he is kept away at 0 and the 5 is seen again and again
        GateBox y = Check.made("sort 1 worth 0 purse 9 gives 5*(last=3)+(last=0);glass;least 1;");
        y.seed(0, 3);
        Check.due("the state at 0 stays", y.near(4, 0), 5000);
    }

    private static void goesBy() {
        Check.sentence("as the SORT of the same number there (if there is none, he goes by)");
        GateBox x = Check.made(sort("2") + sort("3"));
        Check.due("no sorts there: at 0", x.near(2, 0), 5000);
        Check.due("no sorts there: at 1", x.near(2, 1), 0);
        Check.due("no sorts there: who goes by isn't kept away", x.near(2, 2), 0);
        Check.gate(x, 1, sort("4"));
        Check.due("one there", x.near(2, 1), 4000);
        Check.due("one there: kept away", x.near(2, 2), 0);
        Check.gate(x, 1, sort("4") + sort("5") + sort("6"));
        Check.due("three there, the third is nobody's", x.near(2, 1), 9000);
        Check.gate(x, 1, sort("4") + "least 1;");
        Check.due("who goes by isn't kept away by a least", x.near(2, 2), 0);
        // nothing of who goes by, or of who is kept away there, is remembered
        Check.gate(x, 1, sort("last") + "glass;");
        x.seed(1, 7);
        Check.due("7 by half", x.near(2, 1), 7000);
        Check.gate(x, 1, sort("last") + "sort 1 worth 0 purse 9 gives 0;glass;least 1;");
        x.seed(1, 7);
        Check.due("7 by half", x.near(2, 1), 7000);
        Check.due("the others are kept away", x.near(2, 2), 1000);
        GateBox y = new GateBox();
        Check.gate(y, 1, sort("4"));
        Check.due("nobody goes to gate 0", y.near(60, 1), 0);
    }

    private static void purseIsLess() {
        Check.sentence("the PURSE of which is less by what he gave (0 at least)");
        int[] there = {0, 1, 4, 5, 8, 9};
        for (int purse : there) {
            GateBox x = Check.made(sort("4"));
            Check.gate(x, 1, "sort 1 worth 99 purse " + purse + " gives 9;");
            Check.due("a purse of " + purse + " there, 4 given", x.near(1, 1), 1000 * Math.max(0, purse - 4));
            Check.due("an empty purse keeps nobody away", x.near(1, 2), 0);
            Check.gate(x, 1, "sort 1 worth 99 purse " + purse + " gives 0;least 3;");
            Check.due("a least of 3 there", x.near(1, 1), purse - 4 >= 3 ? 3000 : 0);
            Check.due("kept away by it", x.near(1, 2), purse - 4 >= 3 ? 0 : 1000);
        }
        GateBox w = Check.made(sort("9"));
        Check.gate(w, 1, sort("9") + "least 1;");
        Check.due("nothing is left of 9", w.near(1, 1), 0);
        Check.due("kept away", w.near(1, 2), 1000);
        Check.gate(w, 1, sort("9"));
        Check.due("not kept away without a least", w.near(1, 2), 0);
        // the purse that counts is that of gate 1, and his next visit begins anew
        GateBox y = Check.made("sort 1 worth 99 purse 2 gives 2;");
        Check.gate(y, 1, sort("9"));
        Check.due("9 less 2", y.near(1, 1), 7000);
        Check.due("twice", y.near(2, 1), 14000);
        // by the least he gave 3, though he wished for 1
        GateBox z = Check.made(sort("1") + "least 3;");
        Check.gate(z, 1, sort("9"));
        Check.due("9 less 3", z.near(1, 1), 6000);
    }

    private static void inItsExprToo() {
        Check.sentence("in its EXPR, too.");
        GateBox x = Check.made(sort("4"));
        Check.gate(x, 1, sort("purse=5"));
        Check.due("purse is 5 there", x.near(1, 1), 1000);
        // a purse of 3 less 9 is 0, and a gift of 0 is remembered
        GateBox y = Check.made(sort("9"));
        Check.gate(y, 1, "sort 1 worth 99 purse 3 gives 0-purse;glass;");
        y.seed(1, 3);
        Check.due("nothing is left", y.near(60, 1), 0);
        Check.due("purse is never below 0", y.near(60, 2), 0);
        GateBox z = Check.made(sort("9-7*(last=9)") + "glass;");
        Check.gate(z, 1, "sort 1 worth 99 purse 8 gives 5*(purse=6);");
        Check.due("purse 0, then 6: worth stays", z.near(2, 1), 5000);
    }

    private static void manyCouples() {
        Check.sentence("CASES by STATES of both (10,000 at most), both SEEDS, parts by ODDS of GATE 0");
        String[] texts = {
            sort("0") + sort("1") + sort("2") + sort("3") + sort("4") + sort("5") + sort("6") + sort("7+2*(mean=last)") + "sight 2;glass;",
            sort("last*7/3-mean") + sort("9-last") + sort("mean+1") + sort("8") + sort("5-mean") + sort("last+mean") + sort("last/2") + sort("1")
                + "sight 2;glass;"};
        GateBox x = new GateBox();
        Model m = new Model();
        for (int gate = 0; gate < 2; gate++) {
            Check.due("gate " + gate, Check.gate(x, gate, texts[gate]), 0);
            for (int i = 0; i < texts[gate].length(); i += 20) {
                int[] f = Check.five(texts[gate], i);
                m.feed(f[0], f[1], f[2], f[3], f[4]);
            }
            m.gate(gate, texts[gate].length());
            x.seed(gate, 99 - 11 * gate);
            m.seed(gate, 99 - 11 * gate);
        }
        for (int n : new int[] {0, 1, 2, 3, 10, 60}) {
            Check.due("near(" + n + ", 0)", x.near(n, 0), m.near(n, 0));
            Check.due("near(" + n + ", 1)", x.near(n, 1), m.near(n, 1));
            Check.due("near(" + n + ", 2)", x.near(n, 2), m.near(n, 2));
        }
        // both seeds are 99: the first sees 9, the second sees 9
        GateBox y = Check.made(sort("last/3") + "sight 2;glass;");
        Check.gate(y, 1, sort("mean/2") + "sight 2;glass;");
        Check.due("seeds of 0", y.near(1, 0) + y.near(1, 1), 0);
        y.seed(0, 99);
        y.seed(1, 99);
        Check.due("the seed of gate 0", y.near(1, 0), 3000);
        Check.due("the seed of gate 1", y.near(1, 1), 4000);
        // each gate has its own sight
        GateBox w = Check.made(sort("4-last") + "sight 0;glass;");
        Check.gate(w, 1, sort("mean+1") + "sight 2;glass;");
        w.seed(1, 24);
        Check.due("at 0", w.near(3, 0), 12000);
        Check.due("4, of 2 and 4, then 5, of 4 and 4, then 5, of 4 and 5", w.near(3, 1), 14000);
        Check.gate(w, 0, sort("mean") + "sight 2;glass;");
        Check.gate(w, 1, sort("9-last") + "glass;");
        w.seed(0, 48);
        Check.due("6, of 4 and 8, and 7, of 8 and 6", w.near(2, 0), 13000);
        Check.due("3 of 3, and 2 of 2", w.near(2, 1), 5000);
        // the odds of gate 1 count for nothing
        GateBox z = Check.made("sort 1 worth 9 purse 9 gives 1;sort 3 worth 9 purse 9 gives 0;");
        Check.gate(z, 1, "sort 99 worth 9 purse 9 gives 0;sort 1 worth 9 purse 9 gives 4;");
        Check.due("three quarters of 4", z.near(1, 1), 3000);
    }

    private static void nearCoin() {
        Check.sentence("COIN of n persons (0 to 60) at 0, at 1");
        GateBox x = Check.made("sort 1 worth 9 purse 9 gives 1;sort 2 worth 9 purse 9 gives 0;");
        Check.gate(x, 1, "sort 1 worth 9 purse 9 gives 2;sort 2 worth 9 purse 9 gives 0;");
        int[] persons = {0, 1, 2, 3, 4, 59, 60};
        int[] first = {0, 333, 666, 999, 1333, 19666, 19999};
        int[] second = {0, 666, 1333, 1999, 2666, 39333, 39999};
        for (int i = 0; i < persons.length; i++) {
            Check.due("near(" + persons[i] + ", 0)", x.near(persons[i], 0), first[i]);
            Check.due("near(" + persons[i] + ", 1)", x.near(persons[i], 1), second[i]);
        }
        Check.notAsTold("near(61, 0)", () -> x.near(61, 0));
        Check.notAsTold("near(-1, 0)", () -> x.near(-1, 0));
        Check.noSuch("near(61, 3)", () -> x.near(61, 3));
        Check.noSuch("near(1, -1)", () -> x.near(1, -1));
        GateBox y = Check.made(sort("9"));
        Check.gate(y, 1, sort("9"));
        Check.due("the most at 0", y.near(60, 0), 540000);
        Check.due("nothing is left for 1", y.near(60, 1), 0);
    }

    private static void nearAway() {
        Check.sentence("how many were KEPT AWAY at 1 (as AWAY)");
        GateBox x = Check.made("sort 1 worth 9 purse 9 gives 1;sort 2 worth 9 purse 9 gives 0;");
        Check.gate(x, 1, "sort 1 worth 0 purse 9 gives 2;sort 2 worth 9 purse 9 gives 0;least 3;");
        int[] persons = {0, 1, 2, 3, 4, 60};
        int[] due = {0, 333, 666, 999, 1333, 19999};
        for (int i = 0; i < persons.length; i++) {
            Check.due("near(" + persons[i] + ", 2)", x.near(persons[i], 2), due[i]);
        }
        GateBox y = Check.made("sort 1 worth 0 purse 9 gives 2;least 3;");
        Check.gate(y, 1, sort("9"));
        Check.due("who is kept away at 0 alone isn't counted", y.near(60, 2), 0);
        Check.gate(y, 1, "sort 1 worth 0 purse 9 gives 2;least 3;");
        Check.due("the most", y.near(60, 2), 60000);
    }

    private static String sort(String expr) {
        return "sort 1 worth 99 purse 9 gives " + expr + ";";
    }
}
