/** Promises 25 to 31: books, what explains them, guesses. */
final class BookTest {
    public static void main(String[] args) {
        give();
        explained();
        fewest();
        guesses();
        refusals();
        Check.end();
    }

    private static void give() {
        GateBox x = Check.made("sort 1 worth 9 purse 9 gives 3;sight 2;");
        x.seed(0, 12);
        for (int i = 1; i <= 200; i++) {
            Check.due("give " + i, x.give(0, i % 10), i);
        }
        Check.due("state now", x.about(0, 13), 90);
        Check.due("a full book", x.give(0, 1), -1);
        Check.due("the state stays", x.about(0, 13), 90);
        Check.due("status", x.count(2), 1);
        Check.due("a full book and no gift", x.give(0, 10), -1);
        Check.due("status", x.count(2), 2);
        Check.due("no gift", x.give(1, 10), -1);
        Check.due("no gift", x.give(1, -1), -1);
        Check.due("status", x.count(2), 4);
        Check.due("a gift of nothing", x.give(1, 0), 1);
        Check.due("the box has nothing of it", x.about(0, 11), 0);
        Check.due("the first gift", x.given(0, 0, 0), 1);
        Check.due("the state ahead", x.given(0, 0, 1), 12);
        Check.due("the state ahead of the second", x.given(0, 1, 1), 21);
        Check.due("the last gift", x.given(0, 199, 0), 0);
        Check.due("the state ahead of it", x.given(0, 199, 1), 89);
        Check.due("who gives 3", x.given(0, 2, 2), 1);
        Check.due("who gives 4", x.given(0, 3, 2), 0);
        Check.due("the other book: who", x.strange(1), 1);
        Check.due("perhaps", x.who(0, 0, 1), 20);
        Check.due("the other book: given", x.given(1, 0, 2), 0);
        Check.due("fewest", x.fewest(0), 1);
    }

    private static void explained() {
        GateBox x = Check.made("sort 1 worth 9 purse 9 gives last;sort 1 worth 9 purse 9 gives 3;sort 1 worth 1 purse 9 gives 0;"
                + "sort 5 worth 9 purse 9 gives 5;glass;");
        int[] gifts = {3, 3, 0, 8, 5, 5, 0};
        for (int gift : gifts) {
            x.give(0, gift);
        }
        int[] masks = {2, 3, 4, 0, 8, 9, 4};
        for (int i = 0; i < gifts.length; i++) {
            Check.due("given " + i, x.given(0, i, 0), gifts[i]);
            Check.due("who explains " + i, x.given(0, i, 2), masks[i]);
        }
        int[] surely = {0, 1, 2, 1};
        int[] perhaps = {2, 2, 2, 2};
        for (int sort = 0; sort < 4; sort++) {
            Check.due("surely " + sort, x.who(0, sort, 0), surely[sort]);
            Check.due("perhaps " + sort, x.who(0, sort, 1), perhaps[sort]);
        }
        Check.due("strange", x.strange(0), 1);
        Check.due("fewest", x.fewest(0), 14);
        // with a least of 3 and no glass sort 2 is kept away, and that explains no gift
        x.set(0, 132);
        Check.due("as the gate is set now", x.given(0, 0, 2), 3);
        Check.due("kept away explains nothing", x.given(0, 2, 2), 0);
        Check.due("strange now", x.strange(0), 3);
        Check.due("perhaps now", x.who(0, 2, 1), 0);
        Check.due("fewest now: 3 by one of two, 5", x.fewest(0), 9);
    }

    private static void fewest() {
        GateBox x = Check.made("sort 1 worth 9 purse 9 gives 1;sort 1 worth 9 purse 9 gives 1+(last=1);"
                + "sort 1 worth 9 purse 9 gives 2-(last=0);sort 1 worth 9 purse 9 gives 1+(last=2)*6;glass;");
        Check.due("an empty book", x.fewest(0), 0);
        x.give(0, 9);
        Check.due("a strange one alone", x.fewest(0), 0);
        x.seed(0, 0);
        x.give(0, 1);
        Check.due("of like ones the least", x.fewest(0), 1);
        x.give(0, 2);
        Check.due("one that can both", x.fewest(0), 2);
        x.give(0, 7);
        Check.due("two are wanted", x.fewest(0), 10);
        Check.due("no sorts", x.fewest(1), 0);
        x.give(1, 4);
        Check.due("no sorts: strange", x.strange(1), 1);
        Check.due("no sorts: fewest", x.fewest(1), 0);
        Check.due("no sorts: given", x.given(1, 0, 2), 0);
    }

    private static void guesses() {
        GateBox x = Check.made("sort 1 worth 9 purse 9 gives 1;sort 1 worth 9 purse 9 gives 2;sort 1 worth 9 purse 9 gives 3;");
        for (int guess = 0; guess < 4; guess++) {
            Check.due("not told", x.credit(0, guess), -1);
        }
        Check.due("guess(0, 3, 0, 99)", x.guess(0, 3, 0, 99), true);
        Check.due("told alone", x.credit(0, 3), 1000000);
        Check.due("odds of 1", x.guess(0, 2, 1, 1), true);
        Check.due("odds of 1 are told", x.credit(0, 2), 500000);
        Check.due("odds of 0", x.guess(0, 2, 1, 0), true);
        Check.due("guess(0, 1, 0, 1)", x.guess(0, 1, 0, 1), true);
        Check.due("guess(0, 1, 1, 1)", x.guess(0, 1, 1, 1), true);
        Check.due("guess(0, 1, 2, 1)", x.guess(0, 1, 2, 1), true);
        Check.due("guess(0, 0, 1, 7)", x.guess(0, 0, 1, 7), true);
        Check.due("like shares", x.credit(0, 0), 333333);
        Check.due("like shares", x.credit(0, 1), 333333);
        Check.due("like shares", x.credit(0, 3), 333333);
        Check.due("not told", x.credit(0, 2), -1);
        // a gift of 1: times 1, 333, 1000; together 333333 * 1334
        x.give(0, 1);
        Check.due("it gave 1: guess 0", x.credit(0, 0), 749);
        Check.due("it gave 1: guess 1", x.credit(0, 1), 249625);
        Check.due("it gave 1: guess 3", x.credit(0, 3), 749625);
        // a gift of 2: 749 * 1000, 249625 * 333, 749625 * 1; together 84623... 749000 + 83125125 + 749625 = 84623750
        x.give(0, 2);
        Check.due("it gave 2: guess 0", x.credit(0, 0), 8850);
        Check.due("it gave 2: guess 1", x.credit(0, 1), 982290);
        Check.due("it gave 2: guess 3", x.credit(0, 3), 8858);
        Check.due("nothing is told any more", x.guess(0, 3, 0, 0), true);
        Check.due("not told", x.credit(0, 3), -1);
        Check.due("too many odds", x.guess(0, 3, 0, 100), false);
        Check.due("too few odds", x.guess(0, 3, 0, -1), false);
        Check.due("status", x.count(3), 2);
        Check.due("refused odds are not told", x.credit(0, 3), -1);
        Check.due("a new text", Check.gate(x, 0, "sort 1 worth 9 purse 9 gives 1;"), 0);
        Check.due("guesses are gone", x.credit(0, 0), -1);
    }

    private static void refusals() {
        GateBox x = Check.made("sort 1 worth 9 purse 9 gives 1;");
        x.give(0, 1);
        Check.noSuch("give(2, 1)", () -> x.give(2, 1));
        Check.noSuch("give(2, 10)", () -> x.give(2, 10));
        Check.noSuch("given(2, 0, 0)", () -> x.given(2, 0, 0));
        Check.noSuch("given(0, 1, 0)", () -> x.given(0, 1, 0));
        Check.noSuch("given(0, -1, 0)", () -> x.given(0, -1, 0));
        Check.noSuch("given(0, 0, 3)", () -> x.given(0, 0, 3));
        Check.noSuch("given(0, 0, -1)", () -> x.given(0, 0, -1));
        Check.noSuch("who(0, 1, 0)", () -> x.who(0, 1, 0));
        Check.noSuch("who(0, -1, 0)", () -> x.who(0, -1, 0));
        Check.noSuch("who(0, 0, 2)", () -> x.who(0, 0, 2));
        Check.noSuch("who(0, 0, -1)", () -> x.who(0, 0, -1));
        Check.noSuch("who(2, 0, 0)", () -> x.who(2, 0, 0));
        Check.noSuch("strange(2)", () -> x.strange(2));
        Check.noSuch("fewest(-1)", () -> x.fewest(-1));
        Check.noSuch("guess(2, 0, 0, 1)", () -> x.guess(2, 0, 0, 1) ? 1 : 0);
        Check.noSuch("guess(0, 4, 0, 100)", () -> x.guess(0, 4, 0, 100) ? 1 : 0);
        Check.noSuch("guess(0, -1, 0, 1)", () -> x.guess(0, -1, 0, 1) ? 1 : 0);
        Check.noSuch("guess(0, 0, 1, 100)", () -> x.guess(0, 0, 1, 100) ? 1 : 0);
        Check.noSuch("guess(0, 0, -1, 1)", () -> x.guess(0, 0, -1, 1) ? 1 : 0);
        Check.noSuch("guess(1, 0, 0, 1)", () -> x.guess(1, 0, 0, 1) ? 1 : 0);
        Check.noSuch("credit(2, 0)", () -> x.credit(2, 0));
        Check.noSuch("credit(0, 4)", () -> x.credit(0, 4));
        Check.noSuch("credit(0, -1)", () -> x.credit(0, -1));
        Check.due("status of gifts", x.count(2), 0);
        Check.due("status of guesses", x.count(3), 0);
    }
}
