/** Promises 17 to 20: best, would, card, seeded. */
final class BestTest {
    public static void main(String[] args) {
        best();
        card();
        seeded();
        refusals();
        Check.end();
    }

    private static void best() {
        // sort 0 gives more by a keeper and a high card, sort 1 pays 2 at the most and is else kept away
        GateBox x = Check.made("sort 1 worth 9 purse 9 gives keeper*2+sign*card/3;sort 1 worth 2 purse 9 gives 1;");
        Check.due("would(0, 0, 1)", x.would(0, 0, 1), 500);
        Check.due("would(0, 22, 1)", x.would(0, 22, 1), 1500);
        Check.due("would(0, 32, 1)", x.would(0, 32, 1), 3000);
        Check.due("would(0, 31, 1)", x.would(0, 31, 1), 2500);
        Check.due("would(0, 88 + 32, 1)", x.would(0, 120, 1), 3500);
        Check.due("would(0, 132 + 32, 1)", x.would(0, 164, 1), 2500);
        Check.due("nobody: would", x.would(0, 120, 0), 0);
        Check.due("best: least 2, keeper, card 9", x.best(0, 1, 0, 0), 120);
        Check.due("its coin", x.best(0, 1, 0, 1), 3500);
        Check.due("best of 60", x.best(0, 60, 999999, 1), 210000);
        Check.due("nobody stays so seldom away", x.best(0, 1, -1, 0), -1);
        Check.due("its coin", x.best(0, 1, -1, 1), -1);
        Check.due("none come", x.best(0, 0, 0, 0), 0);
        Check.due("none come: coin", x.best(0, 0, 0, 1), 0);
        Check.due("without sorts", x.best(1, 60, 0, 0), 0);
        Check.due("the gate stays as it is", x.about(0, 3), 0);

        GateBox y = Check.made("sort 1 worth 9 purse 9 gives 0;sort 1 worth 1 purse 9 gives 0;");
        Check.due("kept away counts for nothing", y.best(0, 2, 1000, 0), 132);
        Check.due("its coin", y.best(0, 2, 1000, 1), 3000);
        Check.due("fewer are kept away", y.best(0, 2, 999, 0), 44);
        Check.due("its coin", y.best(0, 2, 999, 1), 2000);
        GateBox z = Check.made("sort 1 worth 9 purse 9 gives last+1;");
        Check.due("a glass box", z.best(0, 3, 0, 0), 143);
        Check.due("its coin", z.best(0, 3, 0, 1), 12000);
        Check.due("of like ones the least", z.best(0, 1, 0, 0), 132);
    }

    private static void card() {
        GateBox x = Check.made("sort 1 worth 9 purse 9 gives 3+(card=4)-(card=0)*sign;sort 1 worth 0 purse 9 gives 9-sign;");
        Check.due("none is best", x.card(0, 1), 0);
        GateBox y = Check.made("sort 1 worth 9 purse 9 gives (card=4)+(card=6);card 9;");
        Check.due("card 4", y.card(0, 60), 5);
        Check.due("nobody comes", y.card(0, 0), 0);
        GateBox z = Check.made("sort 1 worth 9 purse 9 gives sign*(9-card);");
        Check.due("card 0", z.card(0, 2), 1);
        Check.due("the gate has none", z.about(0, 2), -1);
        Check.due("without sorts", z.card(1, 60), 0);
        GateBox w = Check.made("sort 1 worth 9 purse 9 gives card*glass+keeper*(card=2)*9;keeper;least 8;");
        Check.due("keeper, glass and least as they are", w.card(0, 1), 3);
        GateBox u = Check.made("sort 1 worth 9 purse 9 gives (glass=0)*(card=1)+glass*(card=7)+last;glass;");
        Check.due("the glass as it is", u.card(0, 2), 8);
        GateBox t = Check.made("sort 1 worth 9 purse 9 gives 0;sort 1 worth 9 purse 9 gives sign-(card=0);");
        Check.due("its number and its sign", t.card(0, 3), 2);
        GateBox v = Check.made("sort 1 worth 9 purse 9 gives 1+sign;");
        Check.due("the sign alone", v.card(0, 1), 1);
    }

    private static void seeded() {
        GateBox x = Check.made("sort 1 worth 9 purse 9 gives mean;glass;sight 2;");
        x.seed(0, 5);
        Check.due("seeded(0, 0)", x.seeded(0, 0), 0);
        Check.due("one person: 99", x.seeded(0, 1), 99);
        Check.due("the seed stays", x.about(0, 9), 5);
        GateBox y = Check.made("sort 1 worth 9 purse 9 gives (last=3)*5+(last=6)*5;glass;");
        Check.due("of like ones the least", y.seeded(0, 1), 3);
        Check.due("two persons", y.seeded(0, 2), 3);
        Check.due("without sorts", y.seeded(1, 60), 0);
    }

    private static void refusals() {
        GateBox x = Check.made("sort 1 worth 9 purse 9 gives 1;");
        Check.noSuch("best(2, 61, 0, 0)", () -> x.best(2, 61, 0, 0));
        Check.noSuch("best(0, 61, 0, 2)", () -> x.best(0, 61, 0, 2));
        Check.noSuch("best(0, 1, 0, -1)", () -> x.best(0, 1, 0, -1));
        Check.notAsTold("best(0, 61, 0, 1)", () -> x.best(0, 61, 0, 1));
        Check.notAsTold("best(0, -1, 0, 1)", () -> x.best(0, -1, 0, 1));
        Check.noSuch("would(0, 176, 61)", () -> x.would(0, 176, 61));
        Check.noSuch("would(0, -1, 1)", () -> x.would(0, -1, 1));
        Check.noSuch("would(-1, 0, 1)", () -> x.would(-1, 0, 1));
        Check.notAsTold("would(0, 175, 61)", () -> x.would(0, 175, 61));
        Check.notAsTold("would(0, 0, -1)", () -> x.would(0, 0, -1));
        Check.noSuch("card(2, 61)", () -> x.card(2, 61));
        Check.notAsTold("card(0, 61)", () -> x.card(0, 61));
        Check.notAsTold("card(0, -1)", () -> x.card(0, -1));
        Check.noSuch("seeded(2, 61)", () -> x.seeded(2, 61));
        Check.notAsTold("seeded(0, 61)", () -> x.seeded(0, 61));
        Check.notAsTold("seeded(0, -1)", () -> x.seeded(0, -1));
    }
}
