/** The sentences of the document's part 2 that name an edge: STATES, CASES, what is given, where it comes to rest. */
final class EdgesCasesTest {
    private static final int ALL = 1000000000;

    public static void main(String[] args) {
        states();
        seedIsBelow();
        atFirstAllAtTheSeed();
        notTheStateNow();
        partsAreCutDown();
        theLastTakesWhatIsLeft();
        greatOdds();
        withoutSorts();
        coin();
        away();
        drift();
        turn();
        comeToFromTheSeed();
        withWhateverPersons();
        eachFromEach();
        noOtherFromThem();
        ordered();
        manyRests();
        mean();
        meanBeginsInTheLeast();
        Check.end();
    }

    private static void states() {
        Check.sentence("THE STATE of a GATE: the last GIFTS that it remembers: the last one, and 10 by the one ahead (with SIGHT 2)");
        GateBox x = Check.made("sight 2;");
        Check.due("0 and 0", x.next(0, 0, 0), 0);
        Check.due("0 and 9", x.next(0, 0, 9), 9);
        Check.due("9 behind a 9", x.next(0, 9, 9), 99);
        Check.due("0 behind 9 9", x.next(0, 99, 0), 90);
        Check.due("0 behind 9 0", x.next(0, 90, 0), 0);
        Check.due("5 behind 4 6", x.next(0, 46, 5), 65);
        GateBox y = Check.made("sight 0;");
        Check.due("sight 1", y.next(1, 9, 4), 4);
        Check.due("sight 1", y.next(1, 0, 9), 9);
        Check.due("sight 0", y.next(0, 0, 9), 0);
    }

    private static void seedIsBelow() {
        Check.sentence("SEED: the STATE at first (0 at first): below 10 to the power of SIGHT.");
        int[] powers = {1, 10, 100};
        for (int sight = 0; sight < 3; sight++) {
            GateBox x = Check.made("sight " + sight + ";");
            int power = powers[sight];
            Check.due("at first", x.about(0, 9), 0);
            Check.due("the state at first", x.about(0, 13), 0);
            Check.noSuch("seed of the power", () -> seeded(x, power));
            Check.noSuch("seed below 0", () -> seeded(x, -1));
            Check.due("it stays", x.about(0, 9), 0);
            Check.due("the greatest", seeded(x, power - 1), power - 1);
            Check.due("the state is the seed", x.about(0, 13), power - 1);
            Check.due("the least", seeded(x, 0), 0);
        }
    }

    private static long seeded(GateBox x, int state) {
        x.seed(0, state);
        return x.about(0, 9);
    }

    private static void atFirstAllAtTheSeed() {
        Check.sentence("CASES of a GATE: billionths by STATES, at first all at the SEED.");
        GateBox x = Check.made(sort(1, "5") + "sight 2;");
        x.seed(0, 99);
        for (int state = 0; state < 100; state++) {
            Check.due("cases(0, 0, " + state + ")", x.cases(0, 0, state), state == 99 ? ALL : 0);
            Check.due("cases(0, 1, " + state + ")", x.cases(0, 1, state), state == 95 ? ALL : 0);
        }
    }

    /** A book goes on to another state, an image keeps another seed: all that is reckoned begins at the seed that is told. */
    private static void notTheStateNow() {
        Check.sentence("SEED: the STATE at first");
        GateBox x = Check.made(sort(1, "last") + "glass;");
        Check.due("the other gate", Check.gate(x, 1, sort(1, "last") + "glass;"), 0);
        x.seed(0, 2);
        x.seed(1, 1);
        x.image();
        x.seed(0, 7);
        x.seed(1, 2);
        x.give(0, 4);
        x.give(1, 0);
        Check.due("the state now", x.about(0, 13), 4);
        Check.due("coin", x.coin(0, 1, 0), 7000);
        Check.due("cases", x.cases(0, 3, 7), ALL);
        Check.due("drift", x.drift(0, 400), 7000);
        Check.due("turn", x.turn(0, 7000), -1);
        Check.due("turn", x.turn(0, 7001), 1);
        Check.due("rest", x.rest(0, 0, 0), 7);
        Check.due("mean", x.rest(0, 0, 2), 7000);
        Check.due("best", x.best(0, 1, 0, 0), 11);
        Check.due("its coin", x.best(0, 1, 0, 1), 7000);
        Check.due("would", x.would(0, 11, 2), 14000);
        Check.due("sooner", x.price(0, 7, 1), 0);
        Check.due("sooner", x.price(0, 8, 1), 1000);
        Check.due("mixed", x.mixed(0, 2, 2, 1), 8000);
        Check.due("near at 0", x.near(1, 0), 7000);
        Check.due("near at 1, of the 2 that 7 leave", x.near(1, 1), 2000);
        Check.due("the state ahead of the first gift", x.given(0, 0, 1), 7);
        GateBox y = Check.made(sort(1, "(last=2)*(card=3)*sign+(last=7)*(card=5)*sign+(last=4)*(card=6)*sign") + "glass;");
        y.seed(0, 2);
        y.image();
        y.seed(0, 7);
        y.give(0, 4);
        Check.due("card", y.card(0, 1), 6);
        y.restore();
        Check.due("card", y.card(0, 1), 4);
    }

    private static void partsAreCutDown() {
        Check.sentence("ODDS times the CASES there, divided by all ODDS, cut down");
        GateBox x = Check.made(sort(1, "1") + sort(1, "2") + sort(1, "6"));
        int[] due = {0, 333333333, 333333333, 0, 0, 0, 333333334, 0, 0, 0};
        for (int state = 0; state < 10; state++) {
            Check.due("cases(0, 1, " + state + ")", x.cases(0, 1, state), due[state]);
        }
        // a hundredth goes one up, all others back to 0: behind 1000 times 1000 times 1000 there is no billionth of it
        GateBox y = Check.made(sort(1, "last+1") + sort(99, "0") + "glass;");
        int[] up = {ALL, 10000000, 100000, 1000, 10, 0, 0};
        for (int n = 0; n < up.length; n++) {
            Check.due("cases(0, " + n + ", " + n + ")", y.cases(0, n, n), up[n]);
        }
        // 9900000, 99000, 990 and 9 went up, not 10
        Check.due("what stays", y.cases(0, 6, 0), 990000001);
        Check.due("all of it", whole(y, 6), ALL);
    }

    private static void theLastTakesWhatIsLeft() {
        Check.sentence("the last SORT what the others leave");
        GateBox x = Check.made(sort(99, "0") + sort(1, "last+1") + "glass;");
        int[] up = {ALL, 10000000, 100000, 1000, 10, 1, 1, 1, 1, 1};
        for (int n = 0; n < up.length; n++) {
            Check.due("cases(0, " + n + ", " + n + ")", x.cases(0, n, n), up[n]);
        }
        Check.due("all of it", whole(x, 9), ALL);
        GateBox y = Check.made(sort(7, "4"));
        Check.due("one sort takes all", y.cases(0, 1, 4), ALL);
    }

    private static void greatOdds() {
        Check.sentence("each SORT has its part: ODDS times the CASES there");
        GateBox x = Check.made(sort(99, "0") + sort(99, "1") + sort(99, "2") + sort(99, "3") + sort(99, "4") + sort(99, "5") + sort(99, "6")
                + sort(99, "7"));
        for (int state = 0; state < 8; state++) {
            Check.due("an eighth in state " + state, x.cases(0, 400, state), 125000000);
        }
        GateBox y = Check.made(sort(99, "0") + sort(1, "1"));
        Check.due("99 hundredths", y.cases(0, 1, 0), 990000000);
        Check.due("and one", y.cases(0, 1, 1), 10000000);
    }

    private static void withoutSorts() {
        Check.sentence("Without SORTS nobody comes: nothing is given.");
        GateBox x = Check.made("sight 2;glass;");
        x.seed(0, 57);
        Check.due("coin(0, 400, 0)", x.coin(0, 400, 0), 0);
        Check.due("coin(0, 400, 1)", x.coin(0, 400, 1), 0);
        Check.due("cases(0, 400, 57)", x.cases(0, 400, 57), ALL);
        Check.due("drift(0, 1)", x.drift(0, 1), 0);
        Check.due("drift(0, 400)", x.drift(0, 400), 0);
        Check.due("turn(0, 1)", x.turn(0, 1), 1);
        Check.due("turn(0, 0)", x.turn(0, 0), -1);
        Check.due("best(0, 60, 0, 0)", x.best(0, 60, 0, 0), 0);
        Check.due("best(0, 60, 0, 1)", x.best(0, 60, 0, 1), 0);
        Check.due("best(0, 60, -1, 0)", x.best(0, 60, -1, 0), -1);
        Check.due("would(0, 175, 60)", x.would(0, 175, 60), 0);
        Check.due("card(0, 60)", x.card(0, 60), 0);
        Check.due("seeded(0, 60)", x.seeded(0, 60), 0);
        Check.due("priced(0)", x.priced(0), 0);
        Check.due("mixed(0, 400, 2, 9)", x.mixed(0, 400, 2, 9), 0);
        Check.due("near(60, 0)", x.near(60, 0), 0);
    }

    private static void coin() {
        Check.sentence("COIN of n persons (0 to 400): of each person all parts times their GIFTS, all together, divided by 1,000,000,"
                + " cut down once (thousandths of a GIFT of 1).");
        GateBox x = Check.made(sort(1, "1") + sort(2, "0"));
        int[] persons = {0, 1, 2, 3, 4, 399, 400};
        int[] due = {0, 333, 666, 999, 1333, 132999, 133333};
        for (int i = 0; i < persons.length; i++) {
            Check.due("coin(0, " + persons[i] + ", 0)", x.coin(0, persons[i], 0), due[i]);
        }
        Check.notAsTold("coin(0, -1, 0)", () -> x.coin(0, -1, 0));
        Check.notAsTold("coin(0, 401, 0)", () -> x.coin(0, 401, 0));
        Check.due("the most that can be", Check.made(sort(1, "9")).coin(0, 400, 0), 3600000);
    }

    private static void away() {
        Check.sentence("AWAY: all parts of those KEPT AWAY, by 1,000,000, cut down once (thousandths).");
        GateBox x = Check.made("sort 1 worth 0 purse 9 gives 0;" + sort(2, "4") + "least 3;");
        int[] persons = {0, 1, 2, 3, 4, 399, 400};
        int[] due = {0, 333, 666, 999, 1333, 132999, 133333};
        for (int i = 0; i < persons.length; i++) {
            Check.due("coin(0, " + persons[i] + ", 1)", x.coin(0, persons[i], 1), due[i]);
        }
        Check.notAsTold("coin(0, -1, 1)", () -> x.coin(0, -1, 1));
        Check.notAsTold("coin(0, 401, 1)", () -> x.coin(0, 401, 1));
        Check.due("the most that can be", Check.made("sort 1 worth 0 purse 9 gives 0;least 1;").coin(0, 400, 1), 400000);
        Check.due("who gives nothing isn't away", Check.made(sort(1, "0")).coin(0, 400, 1), 0);
    }

    private static void drift() {
        Check.sentence("DRIFT of the k-th person (1 to 400): its parts times GIFTS, divided by 1,000,000, cut down.");
        // the first gives a third of 2, the second sees it
        GateBox x = Check.made(sort(1, "2+last") + sort(2, "0") + "glass;");
        Check.due("drift(0, 1)", x.drift(0, 1), 666);
        Check.due("drift(0, 2): a third of 2 and a ninth of 2", x.drift(0, 2), 888);
        Check.due("drift(0, 3): and a part in 27 of 2", x.drift(0, 3), 962);
        Check.due("drift(0, 4): and one in 81", x.drift(0, 4), 987);
        Check.due("drift(0, 400) is as drift(0, 399)", x.drift(0, 400), x.drift(0, 399));
        Check.due("coin is more than its drifts", x.coin(0, 2, 0), 1555);
        Check.notAsTold("drift(0, 0)", () -> x.drift(0, 0));
        Check.notAsTold("drift(0, 401)", () -> x.drift(0, 401));
        Check.notAsTold("drift(0, -1)", () -> x.drift(0, -1));
        Check.due("the most that can be", Check.made(sort(1, "9")).drift(0, 400), 9000);
    }

    private static void turn() {
        Check.sentence("TURN by a bound: the first person whose DRIFT is below it.");
        GateBox x = Check.made(sort(1, "last-1") + "glass;");
        x.seed(0, 9);
        Check.due("above the first", x.turn(0, 8001), 1);
        Check.due("like the first is not below", x.turn(0, 8000), 2);
        Check.due("like the eighth", x.turn(0, 1000), 9);
        Check.due("0 is never below 0", x.turn(0, 0), -1);
        Check.due("the greatest bound", x.turn(0, Integer.MAX_VALUE), 1);
        Check.due("the least bound", x.turn(0, Integer.MIN_VALUE), -1);
        // up and down: the first of many
        GateBox y = Check.made(sort(1, "9-last") + "glass;");
        y.seed(0, 2);
        Check.due("drift(0, 1)", y.drift(0, 1), 7000);
        Check.due("the first that is below", y.turn(0, 7000), 2);
        Check.due("though the next isn't", y.drift(0, 3), 7000);
        GateBox z = Check.made(sort(99, "last") + sort(1, "0") + "glass;");
        z.seed(0, 9);
        int end = z.drift(0, 400);
        Check.due("it still falls", z.drift(0, 399) > end, true);
        Check.due("the 400th", z.turn(0, end + 1), 400);
        Check.due("none of 400", z.turn(0, end), -1);
    }

    private static void comeToFromTheSeed() {
        Check.sentence("A REST: STATES that can be come to from the SEED");
        GateBox x = Check.made(sort(1, "last") + "glass;sight 1;");
        for (int seed = 0; seed < 10; seed++) {
            x.seed(0, seed);
            Check.due("each state is a rest of its own: how many", x.rest(0, -1, 0), 1);
            Check.due("the seed's", x.rest(0, 0, 0), seed);
            Check.due("its size", x.rest(0, 0, 1), 1);
            Check.due("its mean", x.rest(0, 0, 2), 1000 * seed);
        }
        // from 5 to 0 and then to 3, by way of 0 alone
        GateBox w = Check.made(sort(1, "3*(last=0)+last-(last=5)*5") + "glass;");
        w.seed(0, 5);
        Check.due("how many", w.rest(0, -1, 0), 1);
        Check.due("by way of 0", w.rest(0, 0, 0), 3);
        GateBox y = Check.made("sort 1 worth 0 purse 9 gives 0;least 1;sight 2;");
        y.seed(0, 99);
        Check.due("all are kept away: the seed alone", y.rest(0, 0, 0), 99);
        Check.due("its size", y.rest(0, 0, 1), 1);
        Check.due("its mean", y.rest(0, 0, 2), 0);
        // what an earlier call found is forgotten: 9 and 99 without a glass, 0 with it
        GateBox v = Check.made(sort(1, "9*(glass=0)") + "sight 2;");
        Check.due("without a glass", v.rest(0, 0, 0), 99);
        Check.due("its size", v.rest(0, 0, 1), 1);
        v.set(0, 11);
        Check.due("with it", v.rest(0, 0, 0), 0);
        Check.due("its size", v.rest(0, 0, 1), 1);
        GateBox z = Check.made("sight 2;");
        z.seed(0, 64);
        Check.due("without sorts one", z.rest(0, -1, 0), 1);
        Check.due("the seed alone", z.rest(0, 0, 0), 64);
        Check.due("its size", z.rest(0, 0, 1), 1);
        Check.due("its mean", z.rest(0, 0, 2), 0);
        Check.due("sight 0", Check.made(sort(1, "7") + "sight 0;").rest(0, 0, 2), 7000);
    }

    private static void withWhateverPersons() {
        Check.sentence("(with whatever persons)");
        // no billionth ever comes above 4, but persons might
        GateBox x = Check.made(sort(1, "last+1") + sort(99, "0") + "glass;");
        Check.due("no case in 9", x.cases(0, 400, 9), 0);
        Check.due("how many", x.rest(0, -1, 0), 1);
        Check.due("ten states", x.rest(0, 0, 1), 10);
        // and who comes to 9 stays there
        GateBox y = Check.made(sort(1, "last+1") + sort(99, "9*(last=9)") + "glass;");
        Check.due("how many", y.rest(0, -1, 0), 1);
        Check.due("the least", y.rest(0, 0, 0), 9);
        Check.due("its size", y.rest(0, 0, 1), 1);
    }

    private static void eachFromEach() {
        Check.sentence("each from each other of them");
        GateBox x = Check.made(sort(1, "9-last") + "glass;");
        x.seed(0, 7);
        Check.due("7 and 2", x.rest(0, 0, 0), 2);
        Check.due("two states", x.rest(0, 0, 1), 2);
        GateBox y = Check.made(sort(1, "0") + sort(1, "1") + sort(1, "2") + sort(1, "3") + sort(1, "4") + sort(1, "5") + sort(1, "6") + sort(1, "last+1")
                + "glass;sight 2;");
        Check.due("the least", y.rest(0, 0, 0), 0);
        Check.due("all but none: 0 to 9 behind 0 to 8, or 9 behind 9", y.rest(0, 0, 1), reachedOf());
        GateBox z = Check.made(sort(1, "9") + sort(1, "0") + "sight 2;");
        Check.due("0, 9, 90, 99", z.rest(0, 0, 1), 4);
        GateBox w = Check.made(sort(1, "9-last") + "glass;sight 2;");
        w.seed(0, 3);
        Check.due("from 3 to 36 and 63: how many", w.rest(0, -1, 0), 1);
        Check.due("the least", w.rest(0, 0, 0), 36);
        Check.due("its size", w.rest(0, 0, 1), 2);
    }

    /** The states that the eight sorts of eachFromEach come to, counted in the plainest way. */
    private static int reachedOf() {
        boolean[] reached = new boolean[100];
        reached[0] = true;
        for (int round = 0; round < 100; round++) {
            for (int state = 0; state < 100; state++) {
                for (int sort = 0; sort < 8 && reached[state]; sort++) {
                    int gift = sort < 7 ? sort : Math.min(9, state % 10 + 1);
                    reached[state % 10 * 10 + gift] = true;
                }
            }
        }
        int many = 0;
        for (boolean one : reached) {
            many += one ? 1 : 0;
        }
        return many;
    }

    private static void noOtherFromThem() {
        Check.sentence("from which no other can be come to");
        // 1 and 2 go round, but 2 may go to 5 and stay
        GateBox x = Check.made(sort(99, "(last=0)+(last=1)*2+(last=2)+(last=5)*5") + sort(1, "(last=0)+(last=1)*2+(last=2)*5+(last=5)*5") + "glass;");
        Check.due("how many", x.rest(0, -1, 0), 1);
        Check.due("the least", x.rest(0, 0, 0), 5);
        Check.due("its size", x.rest(0, 0, 1), 1);
        Check.noSuch("a second one", () -> x.rest(0, 1, 0));
    }

    private static void ordered() {
        Check.sentence("RESTS are ordered by their least STATES.");
        // 8 and 3 go round; 5 stays; 7 and 1 go round
        GateBox x = Check.made(sort(1, goingOn("8")) + sort(1, goingOn("5")) + sort(1, goingOn("7")) + "glass;");
        int[] least = {1, 3, 5};
        int[] sizes = {2, 2, 1};
        int[] means = {4000, 5500, 5000};
        Check.due("how many", x.rest(0, -1, 0), 3);
        Check.due("how many", x.rest(0, -1, 1), 3);
        Check.due("how many", x.rest(0, -1, 2), 3);
        for (int i = 0; i < 3; i++) {
            Check.due("least of " + i, x.rest(0, i, 0), least[i]);
            Check.due("size of " + i, x.rest(0, i, 1), sizes[i]);
            Check.due("mean of " + i, x.rest(0, i, 2), means[i]);
        }
        Check.noSuch("rest(0, 3, 0)", () -> x.rest(0, 3, 0));
        Check.noSuch("rest(0, -2, 0)", () -> x.rest(0, -2, 0));
        Check.noSuch("rest(0, MAX, 2)", () -> x.rest(0, Integer.MAX_VALUE, 2));
        Check.noSuch("rest(0, MIN, 2)", () -> x.rest(0, Integer.MIN_VALUE, 2));
        Check.noSuch("rest(0, 0, 3)", () -> x.rest(0, 0, 3));
        Check.noSuch("rest(0, 0, -1)", () -> x.rest(0, 0, -1));
    }

    private static String goingOn(String fromZero) {
        return "(last=0)*" + fromZero + "+(last=8)*3+(last=3)*8+(last=5)*5+(last=7)+(last=1)*7";
    }

    private static void manyRests() {
        Check.sentence("RESTS: how many");
        StringBuilder text = new StringBuilder("glass;sight 2;");
        for (int sort = 0; sort < 8; sort++) {
            text.append(sort(1, "last+(last=0)*" + (9 - sort)));
        }
        GateBox x = Check.made(text.toString());
        Check.due("how many", x.rest(0, -1, 0), 8);
        for (int i = 0; i < 8; i++) {
            Check.due("least of " + i, x.rest(0, i, 0), 22 + 11 * i);
            Check.due("size of " + i, x.rest(0, i, 1), 1);
            Check.due("mean of " + i, x.rest(0, i, 2), 2000 + 1000 * i);
        }
        Check.noSuch("a ninth", () -> x.rest(0, 8, 0));
    }

    private static void mean() {
        Check.sentence("COIN of 400 persons less that of 200, by 200, cut down.");
        // thirds give 3.999999996 each: 799,999 of 200 persons, 1,599,999 of 400
        GateBox x = Check.made(sort(1, "6") + sort(1, "6") + sort(1, "0"));
        Check.due("drift", x.drift(0, 400), 3999);
        Check.due("coin of 200", x.coin(0, 200, 0), 799999);
        Check.due("coin of 400", x.coin(0, 400, 0), 1599999);
        Check.due("its mean", x.rest(0, 0, 2), 4000);
        GateBox y = Check.made(sort(1, "1") + sort(2, "0"));
        Check.due("66667 by 200", y.rest(0, 0, 2), 333);
        GateBox z = Check.made(sort(2, "1") + sort(1, "0"));
        Check.due("133333 by 200", z.rest(0, 0, 2), 666);
        Check.due("the most that can be", Check.made(sort(1, "9")).rest(0, 0, 2), 9000);
    }

    private static void meanBeginsInTheLeast() {
        Check.sentence("CASES beginning in its least STATE");
        // 1 4 9 go round: 66 rounds of 14, and behind the 398th a 1 and a 4
        GateBox x = Check.made(sort(1, "(last=1)*4+(last=4)*9+(last=9)") + "glass;");
        for (int seed : new int[] {1, 4, 9}) {
            x.seed(0, seed);
            Check.due("least", x.rest(0, 0, 0), 1);
            Check.due("size", x.rest(0, 0, 1), 3);
            Check.due("mean from the seed " + seed, x.rest(0, 0, 2), 4645);
        }
    }

    private static long whole(GateBox x, int n) {
        long whole = 0;
        for (int state = 0; state < 10; state++) {
            whole += x.cases(0, n, state);
        }
        return whole;
    }

    private static String sort(int odds, String expr) {
        return "sort " + odds + " worth 99 purse 9 gives " + expr + ";";
    }
}
