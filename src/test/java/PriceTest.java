/** Promises 21 to 23: price, priced, mixed. */
final class PriceTest {
    public static void main(String[] args) {
        price();
        mixed();
        refusals();
        Check.end();
    }

    private static void price() {
        GateBox x = Check.made("sort 1 worth 8 purse 4 gives 3;sort 1 worth 3 purse 9 gives last;sort 1 worth 1 purse 1 gives 1;"
                + "glass;least 2;");
        x.seed(0, 6);
        Check.due("all pay nothing", x.price(0, 0, 0), 0);
        Check.due("all pay 1", x.price(0, 1, 0), 1000);
        Check.due("two pay 3", x.price(0, 3, 0), 2000);
        Check.due("one pays 4, cut down", x.price(0, 4, 0), 1333);
        Check.due("none pays 5", x.price(0, 5, 0), 0);
        Check.due("best price", x.priced(0), 3);
        Check.due("kept away at 1", x.price(0, 1, 2), 0);
        Check.due("kept away at 2", x.price(0, 2, 2), 333);
        Check.due("kept away at 4", x.price(0, 4, 2), 666);
        Check.due("kept away at 9", x.price(0, 9, 2), 1000);
        // at the seed sort 0 gives 3, sort 1 gives 6, sort 2 is kept away as it is
        Check.due("sooner at 3", x.price(0, 3, 1), 0);
        Check.due("sooner at 4: gives less, can't pay", x.price(0, 4, 1), 666);
        x.seed(0, 1);
        Check.due("sooner at 3, he saw 1 and gives the least", x.price(0, 3, 1), 333);
        Check.due("sooner at 2", x.price(0, 2, 1), 0);
        Check.due("without sorts", x.price(1, 9, 0), 0);
        Check.due("without sorts", x.price(1, 9, 1), 0);
        Check.due("without sorts", x.price(1, 9, 2), 0);
        Check.due("without sorts", x.priced(1), 0);
        GateBox y = Check.made("sort 1 worth 2 purse 2 gives 0;sort 1 worth 4 purse 4 gives 0;");
        Check.due("2 by all is like 4 by half", y.price(0, 2, 0), y.price(0, 4, 0));
        Check.due("of like ones the least", y.priced(0), 2);
        GateBox w = Check.made("sort 1 worth 1 purse 9 gives 0;");
        Check.due("a price of 1", w.priced(0), 1);
        Check.due("a price of nothing", w.mixed(0, 2, 2, 0), 0);
        GateBox z = Check.made("sort 1 worth 9 purse 9 gives 0;");
        Check.due("the dearest", z.priced(0), 9);
        Check.due("thousands", z.price(0, 9, 0), 9000);
    }

    private static void mixed() {
        GateBox x = Check.made("sort 1 worth 5 purse 9 gives 2;sort 3 worth 3 purse 4 gives last+1;glass;");
        Check.due("all at no price", x.mixed(0, 1, 2, 3), 1250);
        Check.due("the second is asked", x.mixed(0, 2, 2, 3), 4250);
        Check.due("he is asked for too much", x.mixed(0, 2, 2, 9), 1250);
        Check.due("a quarter pays 5", x.mixed(0, 2, 2, 5), 2500);
        Check.due("nothing of it is remembered", x.mixed(0, 3, 2, 3), 3437 + 3000);
        Check.due("the third is asked", x.mixed(0, 3, 3, 3), 3437 + 3000);
        Check.due("none is asked", x.mixed(0, 49, 50, 3), x.coin(0, 49, 0));
        Check.due("one is asked", x.mixed(0, 50, 50, 3), x.coin(0, 49, 0) + 3000);
        Check.due("nobody", x.mixed(0, 0, 2, 3), 0);
        Check.due("without sorts", x.mixed(1, 400, 2, 9), 0);
        // the odds of all who pay are cut down together, and ahead of the price
        String nothing = " purse 9 gives 0;";
        GateBox y = Check.made("sort 1 worth 9" + nothing + "sort 1 worth 9" + nothing + "sort 1 worth 3" + nothing);
        Check.due("three thirds", y.mixed(0, 2, 2, 3), 3000);
        Check.due("two thirds, cut down ahead of the price", y.mixed(0, 2, 2, 9), 5999);
        Check.due("so by each who is asked", y.mixed(0, 400, 2, 9), 1199999);
        GateBox z = Check.made("sort 1 worth 9" + nothing + "sort 2 worth 9" + nothing + "sort 3 worth 1" + nothing);
        Check.due("a sixth and two are a half", z.mixed(0, 2, 2, 8), 4000);
        Check.due("each pays 1", z.mixed(0, 400, 2, 1), 200000);
    }

    private static void refusals() {
        GateBox x = Check.made("sort 1 worth 9 purse 9 gives 1;");
        Check.noSuch("price(2, 0, 0)", () -> x.price(2, 0, 0));
        Check.noSuch("price(0, 10, 0)", () -> x.price(0, 10, 0));
        Check.noSuch("price(0, -1, 0)", () -> x.price(0, -1, 0));
        Check.noSuch("price(0, 1, 3)", () -> x.price(0, 1, 3));
        Check.noSuch("price(0, 1, -1)", () -> x.price(0, 1, -1));
        Check.noSuch("price(1, 10, 0)", () -> x.price(1, 10, 0));
        Check.noSuch("priced(2)", () -> x.priced(2));
        Check.noSuch("mixed(2, 401, 1, 10)", () -> x.mixed(2, 401, 1, 10));
        Check.notAsTold("mixed(0, 401, 2, 1)", () -> x.mixed(0, 401, 2, 1));
        Check.notAsTold("mixed(0, -1, 2, 1)", () -> x.mixed(0, -1, 2, 1));
        Check.notAsTold("mixed(0, 1, 1, 1)", () -> x.mixed(0, 1, 1, 1));
        Check.notAsTold("mixed(0, 1, 51, 1)", () -> x.mixed(0, 1, 51, 1));
        Check.notAsTold("mixed(0, 1, 0, 1)", () -> x.mixed(0, 1, 0, 1));
        Check.notAsTold("mixed(0, 1, 2, 10)", () -> x.mixed(0, 1, 2, 10));
        Check.notAsTold("mixed(0, 1, 2, -1)", () -> x.mixed(0, 1, 2, -1));
        Check.notAsTold("mixed(1, 1, 2, 10)", () -> x.mixed(1, 1, 2, 10));
    }
}
