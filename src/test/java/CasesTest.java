/** Promises 12 to 16: coin, cases, drift, turn, rest. */
final class CasesTest {
    public static void main(String[] args) {
        cutDown();
        keptAway();
        turn();
        rests();
        restsWithSightTwo();
        refusals();
        Check.end();
    }

    /** Three sorts alike: a third each is cut down, the last one takes what is left. */
    private static void cutDown() {
        GateBox x = Check.made("sort 1 worth 9 purse 9 gives 1;sort 1 worth 9 purse 9 gives 2;sort 1 worth 9 purse 9 gives 6;");
        Check.due("cases(0, 0, 0)", x.cases(0, 0, 0), 1000000000);
        Check.due("cases(0, 1, 0)", x.cases(0, 1, 0), 0);
        Check.due("cases(0, 1, 1)", x.cases(0, 1, 1), 333333333);
        Check.due("cases(0, 1, 2)", x.cases(0, 1, 2), 333333333);
        Check.due("cases(0, 1, 6)", x.cases(0, 1, 6), 333333334);
        Check.due("cases(0, 2, 1)", x.cases(0, 2, 1), 333333333);
        Check.due("cases(0, 2, 6)", x.cases(0, 2, 6), 333333334);
        Check.due("coin(0, 1, 0)", x.coin(0, 1, 0), 3000);
        Check.due("coin(0, 0, 0)", x.coin(0, 0, 0), 0);
        Check.due("coin(0, 400, 0)", x.coin(0, 400, 0), 1200000);
        Check.due("coin(0, 400, 1)", x.coin(0, 400, 1), 0);

        // 1/3 of a gift each, cut down once for all persons together
        GateBox y = Check.made("sort 1 worth 9 purse 9 gives 1;sort 2 worth 9 purse 9 gives 0;");
        Check.due("one person", y.coin(0, 1, 0), 333);
        Check.due("drift(0, 1)", y.drift(0, 1), 333);
        Check.due("drift(0, 2)", y.drift(0, 2), 333);
        Check.due("two persons", y.coin(0, 2, 0), 666);
        Check.due("three persons", y.coin(0, 3, 0), 999);
        Check.due("four persons", y.coin(0, 4, 0), 1333);
    }

    private static void keptAway() {
        GateBox x = Check.made("sort 1 worth 1 purse 9 gives 1;sort 2 worth 9 purse 9 gives 4;least 3;");
        x.seed(0, 7);
        Check.due("coin(0, 1, 0)", x.coin(0, 1, 0), 2666);
        Check.due("coin(0, 1, 1)", x.coin(0, 1, 1), 333);
        Check.due("coin(0, 3, 1)", x.coin(0, 3, 1), 999);
        Check.due("coin(0, 4, 1)", x.coin(0, 4, 1), 1333);
        Check.due("cases(0, 1, 7)", x.cases(0, 1, 7), 333333333);
        Check.due("cases(0, 1, 4)", x.cases(0, 1, 4), 666666667);
        Check.due("cases(0, 2, 7)", x.cases(0, 2, 7), 111111111);
        Check.due("cases(0, 2, 4)", x.cases(0, 2, 4), 888888889);
        Check.due("drift(0, 400)", x.drift(0, 400), 2666);
    }

    private static void turn() {
        GateBox x = Check.made("sort 1 worth 9 purse 9 gives last-1;glass;");
        x.seed(0, 9);
        Check.due("drift(0, 1)", x.drift(0, 1), 8000);
        Check.due("drift(0, 8)", x.drift(0, 8), 1000);
        Check.due("drift(0, 9)", x.drift(0, 9), 0);
        Check.due("turn(0, 8001)", x.turn(0, 8001), 1);
        Check.due("turn(0, 8000)", x.turn(0, 8000), 2);
        Check.due("turn(0, 1)", x.turn(0, 1), 9);
        Check.due("turn(0, 0)", x.turn(0, 0), -1);
        Check.due("turn(0, -5)", x.turn(0, -5), -1);
        Check.due("turn(0, MAX)", x.turn(0, Integer.MAX_VALUE), 1);
        Check.due("turn(1, 1) without sorts", x.turn(1, 1), 1);
        Check.due("drift(1, 1) without sorts", x.drift(1, 1), 0);
        GateBox y = Check.made("sort 99 worth 9 purse 9 gives last;sort 1 worth 9 purse 9 gives 0;glass;");
        y.seed(0, 9);
        Check.due("drift(0, 399)", y.drift(0, 399), 163);
        Check.due("drift(0, 400)", y.drift(0, 400), 161);
        Check.due("the last of 400", y.turn(0, 162), 400);
        Check.due("none of 400", y.turn(0, 161), -1);
        Check.due("cases(1, 400, 0) without sorts", x.cases(1, 400, 0), 1000000000);
    }

    private static void rests() {
        // from 0: one sort goes to 5 or keeps what is higher, the other to 2 if nothing was told yet; 2 stays, 5 to 9 go round
        GateBox x = Check.made("sort 1 worth 9 purse 9 gives (last=0)*2+(last=2)*2+(4<last)*(5+(last=5)*4);"
                + "sort 3 worth 9 purse 9 gives (last=0)*5+(last=2)*2+(4<last)*(5+(last=5)*4);glass;");
        Check.due("how many", x.rest(0, -1, 0), 2);
        Check.due("how many", x.rest(0, -1, 2), 2);
        Check.due("the first's least", x.rest(0, 0, 0), 2);
        Check.due("the first's size", x.rest(0, 0, 1), 1);
        Check.due("the first's mean", x.rest(0, 0, 2), 2000);
        Check.due("the second's least", x.rest(0, 1, 0), 5);
        Check.due("the second's size", x.rest(0, 1, 1), 2);
        Check.due("the second's mean", x.rest(0, 1, 2), 7000);
        x.seed(0, 9);
        Check.due("from 9: how many", x.rest(0, -1, 0), 1);
        Check.due("from 9: the least", x.rest(0, 0, 0), 5);
        x.seed(0, 2);
        Check.due("from 2: the least", x.rest(0, 0, 0), 2);
        Check.noSuch("rest(0, 1, 0)", () -> x.rest(0, 1, 0));
        Check.noSuch("rest(0, -2, 0)", () -> x.rest(0, -2, 0));
        Check.noSuch("rest(0, 0, 3)", () -> x.rest(0, 0, 3));
        Check.noSuch("rest(0, 0, -1)", () -> x.rest(0, 0, -1));
        Check.noSuch("rest(0, -1, 3)", () -> x.rest(0, -1, 3));
        Check.noSuch("rest(2, -1, 0)", () -> x.rest(2, -1, 0));
        Check.due("without sorts: how many", x.rest(1, -1, 0), 1);
        x.seed(1, 6);
        Check.due("without sorts: the seed", x.rest(1, 0, 0), 6);
        Check.due("without sorts: its size", x.rest(1, 0, 1), 1);
        Check.due("without sorts: its mean", x.rest(1, 0, 2), 0);
    }

    private static void restsWithSightTwo() {
        GateBox x = Check.made("sort 1 worth 9 purse 9 gives 9;sort 1 worth 9 purse 9 gives 6;sight 2;");
        x.seed(0, 12);
        Check.due("how many", x.rest(0, -1, 0), 1);
        Check.due("least", x.rest(0, 0, 0), 66);
        Check.due("size: 66 69 96 99", x.rest(0, 0, 1), 4);
        Check.due("mean", x.rest(0, 0, 2), 7500);
        // it seldom goes from 0 to 9 or back: the mean is that of the later 200 of 400
        GateBox z = Check.made("sort 1 worth 9 purse 9 gives 9-last;sort 99 worth 9 purse 9 gives last;glass;");
        z.seed(0, 9);
        Check.due("0 and 9 by way of one another", z.rest(0, 0, 1), 2);
        Check.due("slow mean", z.rest(0, 0, 2), 4480);
        // states 63 and 64 are no rest of the other, nor is what an earlier call found
        x.seed(0, 0);
        Check.due("again", x.rest(0, 0, 1), 4);
        Check.due("a gate with states 46 and 64", Check.gate(x, 0, "sort 1 worth 9 purse 9 gives 10-last;sight 2;glass;"), 0);
        x.seed(0, 4);
        Check.due("46 64: how many", x.rest(0, -1, 0), 1);
        Check.due("46 64: least", x.rest(0, 0, 0), 46);
        Check.due("46 64: size", x.rest(0, 0, 1), 2);
        Check.due("a gate with states 36 and 63", Check.gate(x, 0, "sort 1 worth 9 purse 9 gives 9-last;sight 2;glass;"), 0);
        x.seed(0, 3);
        Check.due("36 63: least", x.rest(0, 0, 0), 36);
        Check.due("36 63: size", x.rest(0, 0, 1), 2);
        Check.due("five ways through 0", Check.gate(x, 0, "sort 1 worth 9 purse 9 gives (last=0)*7;"
                + "sort 1 worth 9 purse 9 gives (last=0)*3;sort 1 worth 9 purse 9 gives (last=0);glass;"), 0);
        Check.due("from 0: least", x.rest(0, 0, 0), 0);
        Check.due("from 0: size", x.rest(0, 0, 1), 4);
        GateBox y = Check.made("sort 1 worth 2 purse 9 gives 1;least 3;sight 2;");
        y.seed(0, 71);
        Check.due("all kept away: least", y.rest(0, 0, 0), 71);
        Check.due("all kept away: size", y.rest(0, 0, 1), 1);
        Check.due("all kept away: mean", y.rest(0, 0, 2), 0);
    }

    private static void refusals() {
        GateBox x = Check.made("sort 1 worth 9 purse 9 gives 1;");
        Check.noSuch("coin(2, 1, 0)", () -> x.coin(2, 1, 0));
        Check.noSuch("coin(2, 401, 0)", () -> x.coin(2, 401, 0));
        Check.noSuch("coin(0, 1, 2)", () -> x.coin(0, 1, 2));
        Check.noSuch("coin(0, 401, 2)", () -> x.coin(0, 401, 2));
        Check.notAsTold("coin(0, 401, 1)", () -> x.coin(0, 401, 1));
        Check.notAsTold("coin(0, -1, 0)", () -> x.coin(0, -1, 0));
        Check.noSuch("cases(0, 401, 10)", () -> x.cases(0, 401, 10));
        Check.noSuch("cases(0, 1, -1)", () -> x.cases(0, 1, -1));
        Check.noSuch("cases(-1, 1, 0)", () -> x.cases(-1, 1, 0));
        Check.notAsTold("cases(0, 401, 9)", () -> x.cases(0, 401, 9));
        Check.notAsTold("cases(0, -1, 0)", () -> x.cases(0, -1, 0));
        Check.noSuch("drift(2, 0)", () -> x.drift(2, 0));
        Check.notAsTold("drift(0, 0)", () -> x.drift(0, 0));
        Check.notAsTold("drift(0, 401)", () -> x.drift(0, 401));
        Check.noSuch("turn(2, 0)", () -> x.turn(2, 0));
    }
}
