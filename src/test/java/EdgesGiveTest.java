/** The sentences of the document's 'Terms' that name an edge of what an EXPR is and what a person GIVES. */
final class EdgesGiveTest {
    /** 2147483648 as a product: the least int, since ints wrap. */
    private static final String LEAST_INT = "(256*256*128*256)";

    public static void main(String[] args) {
        fromTheLeft();
        wraps();
        cutDownToZero();
        byZero();
        oneOrZero();
        worthAndPurse();
        last();
        mean();
        withoutGlassOrSight();
        card();
        sign();
        keeperAndGlass();
        leastIsAValue();
        belowZeroAndAbovePurse();
        belowLeast();
        keptAway();
        Check.end();
    }

    private static void fromTheLeft() {
        Check.sentence("From the left");
        gives("9-4-3", 2);
        gives("9-(4-3)", 8);
        gives("8/4/2", 1);
        gives("8/(4/2)", 4);
        gives("8/4*2", 4);
        gives("5/2*3", 6);
        gives("5*3/2", 7);
        gives("1-2+3", 2);
        gives("2+3*2", 8);
        gives("9-2*3-1", 2);
        gives("1 or 1 and 0", 1);
        gives("0 and 0 or 1", 1);
        gives("not 1 or 1", 1);
        gives("not 0 and 0", 0);
        gives("not 1<2", 0);
        gives("2<1+2", 1);
        gives("1+2<2", 0);
    }

    private static void wraps() {
        Check.sentence("ints that wrap");
        gives("256*256*128*256<0", 1);
        gives("0<256*256*128*256-1", 1);
        gives("256*256*256*256=0", 1);
        gives("256*256*256*256+5", 5);
        gives(LEAST_INT + "-1+1=" + LEAST_INT, 1);
        gives("0-" + LEAST_INT + "=" + LEAST_INT, 1);
        gives(LEAST_INT + "*" + LEAST_INT, 0);
        // the least int by -1 wraps to itself and isn't refused by the machine
        gives(LEAST_INT + "/(0-1)=" + LEAST_INT, 1);
        gives("(" + LEAST_INT + "-1)/(0-1)<0", 1);
        // the greatest int is above each purse, one more is below 0
        gives(LEAST_INT + "-1", 9);
        gives(LEAST_INT, 0);
    }

    private static void cutDownToZero() {
        Check.sentence("/ cut down to 0");
        gives("7/2", 3);
        gives("1/2", 0);
        gives("(0-7)/2+9", 6);
        gives("7/(0-2)+9", 6);
        gives("(0-7)/(0-2)", 3);
        gives("(0-1)/2+5", 5);
        gives("8/9", 0);
        gives("9/9", 1);
    }

    private static void byZero() {
        Check.sentence("by 0 gives 0");
        gives("5/0", 0);
        gives("5/0+3", 3);
        gives("0/0+3", 3);
        gives("(0-5)/0+3", 3);
        gives("5/(1-1)+3", 3);
        gives("5/last+3", 3);
        gives(LEAST_INT + "/0+3", 3);
    }

    private static void oneOrZero() {
        Check.sentence("tests, not, and, or are 1 or 0 (what isn't 0 holds)");
        String[] hold = {"2<3", "0-1<0", "3=3", "0-1=0-1", "not 0", "not not 5", "not not (0-5)", "5 and 7", "(0-5) and (0-1)", "2 and 4",
            "5 or 7", "5 or 0", "0 or 5", "0 or (0-5)", "(0-5) or 0", "3-5 or 0", "1 or (0-1)"};
        String[] fail = {"3<3", "4<3", "0<0-1", "3=4", "4=3", "1=0-1", "not 1", "not 5", "not (0-5)", "5 and 0", "0 and 5", "0 and 0",
            "(0-5) and 0", "0 or 0", "1-1 or 1/2"};
        // the sums show that it is 1 and 0, not 9 or -1
        for (String expr : hold) {
            gives(expr, 1);
            gives("3*(" + expr + ")+2", 5);
        }
        for (String expr : fail) {
            gives(expr, 0);
            gives("3*(" + expr + ")+2", 2);
        }
    }

    private static void worthAndPurse() {
        Check.sentence("VALUES: 'worth', 'purse' (of the SORT)");
        GateBox x = Check.made("sort 1 worth 99 purse 9 gives worth=99;sort 1 worth 5 purse 8 gives worth;sort 1 worth 5 purse 8 gives purse;"
                + "sort 1 worth 0 purse 9 gives worth+1;sort 1 worth 9 purse 0 gives purse+1;sort 1 worth 3 purse 9 gives worth*2+purse/9;");
        int[] due = {1, 5, 8, 1, 0, 7};
        for (int sort = 0; sort < due.length; sort++) {
            Check.due("sort " + sort, x.gives(0, sort, 0), due[sort]);
        }
    }

    private static void last() {
        Check.sentence("'last' (the last GIFT)");
        GateBox x = Check.made(sort("last") + "glass;");
        GateBox y = Check.made(sort("last") + "glass;sight 2;");
        for (int gift = 0; gift < 10; gift++) {
            Check.due("sight 1: gives(0, 0, " + gift + ")", x.gives(0, 0, gift), gift);
            Check.due("sight 2: gives(0, 0, 7" + gift + ")", y.gives(0, 0, 70 + gift), gift);
        }
    }

    private static void mean() {
        Check.sentence("'mean' (all remembered ones by how many, cut down)");
        GateBox x = Check.made(sort("mean") + "glass;");
        GateBox y = Check.made(sort("mean") + "glass;sight 2;");
        for (int gift = 0; gift < 10; gift++) {
            Check.due("sight 1: gives(0, 0, " + gift + ")", x.gives(0, 0, gift), gift);
        }
        int[] states = {0, 1, 2, 10, 20, 12, 21, 90, 9, 89, 99, 34, 35};
        int[] due = {0, 0, 1, 0, 1, 1, 1, 4, 4, 8, 9, 3, 4};
        for (int i = 0; i < states.length; i++) {
            Check.due("sight 2: gives(0, 0, " + states[i] + ")", y.gives(0, 0, states[i]), due[i]);
        }
    }

    private static void withoutGlassOrSight() {
        Check.sentence("both 0 without GLASS or SIGHT");
        String sorts = sort("last") + sort("mean") + sort("5-last-mean");
        GateBox x = Check.made(sorts + "sight 2;");
        GateBox y = Check.made(sorts);
        GateBox z = Check.made(sorts + "sight 0;glass;");
        int[] due = {0, 0, 5};
        for (int sort = 0; sort < 3; sort++) {
            Check.due("no glass, sight 2: sort " + sort, x.gives(0, sort, 99), due[sort]);
            Check.due("no glass, sight 1: sort " + sort, y.gives(0, sort, 9), due[sort]);
            Check.due("sight 0: sort " + sort, z.gives(0, sort, 0), due[sort]);
        }
        z.give(0, 7);
        Check.due("sight 0 behind a gift of 7", z.gives(0, 0, z.about(0, 13)), 0);
    }

    private static void card() {
        Check.sentence("'card' (its number, 0 without)");
        for (int card = 0; card < 10; card++) {
            Check.due("card " + card, Check.made(sort("card") + "card " + card + ";").gives(0, 0, 3), card);
        }
        Check.due("without", Check.made(sort("card")).gives(0, 0, 3), 0);
        Check.due("without it is no less than 0", Check.made(sort("card+4")).gives(0, 0, 3), 4);
    }

    private static void sign() {
        Check.sentence("'sign' (1 if there is a CARD)");
        Check.due("card 0", Check.made(sort("sign") + "card 0;").gives(0, 0, 3), 1);
        Check.due("card 9", Check.made(sort("sign") + "card 9;").gives(0, 0, 3), 1);
        Check.due("without", Check.made(sort("sign")).gives(0, 0, 3), 0);
    }

    private static void keeperAndGlass() {
        Check.sentence("'keeper', 'glass' (1 or 0)");
        String sorts = sort("keeper*2+glass");
        Check.due("neither", Check.made(sorts).gives(0, 0, 3), 0);
        Check.due("glass", Check.made(sorts + "glass;").gives(0, 0, 3), 1);
        Check.due("a keeper", Check.made(sorts + "keeper;").gives(0, 0, 3), 2);
        Check.due("both", Check.made(sorts + "keeper;glass;").gives(0, 0, 3), 3);
    }

    private static void leastIsAValue() {
        Check.sentence("'least'");
        for (int least = 0; least < 10; least++) {
            GateBox x = Check.made(sort("least") + sort("9-(least<5)") + "least " + least + ";");
            Check.due("least " + least, x.gives(0, 0, 3), least);
            Check.due("least " + least, x.gives(0, 1, 3), least < 5 ? 8 : 9);
        }
    }

    private static void belowZeroAndAbovePurse() {
        Check.sentence("A person of a SORT GIVES what its EXPR is, 0 if below 0, PURSE if above.");
        for (int purse = 0; purse < 10; purse++) {
            GateBox x = Check.made(purse(purse, "0-1") + purse(purse, "0") + purse(purse, "purse") + purse(purse, "purse+1")
                    + purse(purse, "purse-1") + purse(purse, "999"));
            int[] due = {0, 0, purse, purse, Math.max(purse - 1, 0), purse};
            for (int sort = 0; sort < due.length; sort++) {
                Check.due("purse " + purse + ": sort " + sort, x.gives(0, sort, 0), due[sort]);
            }
        }
        Check.due("worth is no bound", Check.made("sort 1 worth 0 purse 9 gives 9;").gives(0, 0, 0), 9);
    }

    private static void belowLeast() {
        Check.sentence("If that is below LEAST: LEAST, if WORTH and PURSE are no less than LEAST");
        String[] sorts = {"worth 5 purse 5 gives 4;", "worth 5 purse 5 gives 5;", "worth 5 purse 9 gives 6;", "worth 99 purse 9 gives 0-1;",
            "worth 4 purse 9 gives 5;", "worth 0 purse 9 gives 9;"};
        int[] due = {5, 5, 6, 5, 5, 9};
        for (int sort = 0; sort < sorts.length; sort++) {
            Check.due("least 5: " + sorts[sort], Check.made("sort 1 " + sorts[sort] + "least 5;").gives(0, 0, 0), due[sort]);
        }
        Check.due("least 9", Check.made("sort 1 worth 9 purse 9 gives 8;least 9;").gives(0, 0, 0), 9);
        Check.due("least 0", Check.made("sort 1 worth 0 purse 0 gives 0;least 0;").gives(0, 0, 0), 0);
    }

    private static void keptAway() {
        Check.sentence("else he is KEPT AWAY: he gives nothing, and nothing of it is remembered.");
        String[] sorts = {"worth 4 purse 9 gives 4;", "worth 9 purse 4 gives 9;", "worth 4 purse 4 gives 4;", "worth 0 purse 0 gives 0;"};
        for (String sort : sorts) {
            GateBox x = Check.made("sort 1 " + sort + "least 5;sight 2;");
            x.seed(0, 67);
            Check.due("gives of " + sort, x.gives(0, 0, 67), -1);
            Check.due("coin of " + sort, x.coin(0, 400, 0), 0);
            Check.due("away of " + sort, x.coin(0, 400, 1), 400000);
            Check.due("cases of " + sort, x.cases(0, 400, 67), 1000000000);
            Check.due("drawn of " + sort, x.drawn(0, 10, 1), 0);
            Check.due("the state now", x.about(0, 13), 67);
            Check.due("the book", x.about(0, 10), 0);
            Check.due("the box", x.about(0, 11), 0);
        }
        Check.due("a gift of nothing is no such thing", Check.made("sort 1 worth 0 purse 0 gives 0;").gives(0, 0, 0), 0);
        GateBox y = Check.made("sort 1 worth 0 purse 0 gives 0;");
        y.seed(0, 6);
        Check.due("it is remembered", y.cases(0, 1, 0), 1000000000);
    }

    private static String sort(String expr) {
        return "sort 1 worth 99 purse 9 gives " + expr + ";";
    }

    private static String purse(int purse, String expr) {
        return "sort 1 worth 99 purse " + purse + " gives " + expr + ";";
    }

    private static void gives(String expr, int due) {
        Check.due("gives of " + expr, Check.made(sort(expr)).gives(0, 0, 0), due);
    }
}
