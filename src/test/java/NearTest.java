/** Promise 24: two gates near one another. */
final class NearTest {
    public static void main(String[] args) {
        spent();
        keptAway();
        remembered();
        refusals();
        Check.end();
    }

    private static void spent() {
        GateBox x = Check.made("sort 1 worth 9 purse 9 gives 4;sort 1 worth 9 purse 9 gives 7;sort 2 worth 9 purse 9 gives 1;");
        Check.due("gate 1", Check.gate(x, 1, "sort 9 worth 9 purse 6 gives purse*10;sort 50 worth 9 purse 6 gives 5-purse;"), 0);
        // sort 0 has 2 left and gives 2; sort 1 has nothing left; sort 2 has none of its number there
        near(x, 1, 3250, 500, 0);
        near(x, 2, 6500, 1000, 0);
        near(x, 60, 194999, 29999, 0);
        near(x, 0, 0, 0, 0);
        Check.due("gate 1 without sorts", Check.gate(x, 1, ""), 0);
        near(x, 3, 9750, 0, 0);
        Check.due("gate 0 without sorts", Check.gate(x, 0, ""), 0);
        Check.due("gate 1 with one", Check.gate(x, 1, "sort 9 worth 9 purse 6 gives 1;"), 0);
        near(x, 3, 0, 0, 0);
    }

    private static void keptAway() {
        GateBox x = Check.made("sort 1 worth 1 purse 9 gives 0;sort 2 worth 9 purse 9 gives 5;least 2;");
        Check.due("gate 1", Check.gate(x, 1, "sort 1 worth 9 purse 3 gives 3;sort 1 worth 9 purse 8 gives 1;least 3;"), 0);
        // he who is kept away at gate 0 goes to gate 1 with all he has; of the other's 8 are 3 left
        near(x, 1, 3333, 3000, 0);
        Check.due("gate 1", Check.gate(x, 1, "sort 1 worth 9 purse 3 gives 3;sort 1 worth 9 purse 7 gives 1;least 3;"), 0);
        near(x, 1, 3333, 999, 666);
        near(x, 3, 10000, 2999, 2000);
    }

    private static void remembered() {
        GateBox x = Check.made("sort 1 worth 9 purse 9 gives last+1;glass;");
        Check.due("gate 1", Check.gate(x, 1, "sort 1 worth 9 purse 9 gives mean+1;sight 2;glass;"), 0);
        x.seed(0, 2);
        x.seed(1, 24);
        GateBox y = Check.made("sort 1 worth 9 purse 9 gives last+1;glass;");
        Check.due("gate 1", Check.gate(y, 1, "sort 1 worth 9 purse 9 gives purse;sight 0;"), 0);
        int second = 0;
        int first = 0;
        for (int n = 1; n < 13; n++) {
            int gift = n < 9 ? n : 9;
            first += 1000 * gift;
            second += 1000 * (9 - gift);
            near(y, n, first, second, 0);
        }
        // gate 0: 3 4 5; gate 1: (2+4)/2+1=4, (4+4)/2+1=5 of 5 left, (4+5)/2+1=5 of 4 left
        near(x, 1, 3000, 4000, 0);
        near(x, 2, 7000, 9000, 0);
        near(x, 3, 12000, 13000, 0);
    }

    private static void near(GateBox x, int n, int first, int second, int away) {
        Check.due("near(" + n + ", 0)", x.near(n, 0), first);
        Check.due("near(" + n + ", 1)", x.near(n, 1), second);
        Check.due("near(" + n + ", 2)", x.near(n, 2), away);
    }

    private static void refusals() {
        GateBox x = new GateBox();
        Check.noSuch("near(0, 3)", () -> x.near(0, 3));
        Check.noSuch("near(61, -1)", () -> x.near(61, -1));
        Check.notAsTold("near(61, 0)", () -> x.near(61, 0));
        Check.notAsTold("near(-1, 2)", () -> x.near(-1, 2));
    }
}
