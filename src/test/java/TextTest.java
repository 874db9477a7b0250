/** Promises 3 and 4: texts, their faults and where these are. */
final class TextTest {
    private static final String SORT = "sort 1 worth 2 purse 3 gives ";

    public static void main(String[] args) {
        fine();
        cannotStand();
        tooMuch();
        noValue();
        toldAlready();
        theFirstAndTheLeast();
        whatAFaultLeaves();
        refusals();
        Check.end();
    }

    private static void fine() {
        fault("", 0, -1);
        fault("\n \n", 0, -1);
        fault("sort1worth2purse3gives4;keeper;glass;least3;card0;sight0;thief0 1;", 0, -1);
        fault("sort 099 worth 000 purse 009 gives 999;thief 100 999;", 0, -1);
        fault(SORT + "((((((1)))))".substring(1) + ";", 0, -1);
        fault(SORT + "not not not not not not 1;", 0, -1);
        fault(SORT + "not not not not not not (not not not not not not 1);", 0, -1);
        fault(SORT + "not 1<2 and not not 3=4 or 5<(6<7);", 0, -1);
        fault((SORT + "1;").repeat(8), 0, -1);
        fault(SORT + "worth+purse+last+mean+card+sign+keeper+glass+least;", 0, -1);
    }

    private static void cannotStand() {
        fault("x", 1, 0);
        fault(";", 1, 0);
        fault("keeper;;", 1, 7);
        fault("keeper", 1, 6);
        fault("keeper  ", 1, 8);
        fault("keepers;", 1, 0);
        fault("sort", 1, 4);
        fault("sort worth", 1, 5);
        fault("sort 1 wort 2", 1, 7);
        fault("sort 1 worth 2 gives", 1, 15);
        fault("sort 1 worth 2 purse 3 ;", 1, 23);
        fault("worth 1;", 1, 0);
        fault("sight;", 1, 5);
        fault("thief 1;", 1, 7);
        fault("card 1 2;", 1, 7);
        fault("least -1;", 1, 6);
        fault("glass\t;", 1, 5);
        fault("glass\r\n;", 1, 5);
        fault("Keeper;", 1, 0);
        fault(SORT, 1, SORT.length());
        at(";", 1, 0);
        at(")", 1, 0);
        at("()", 1, 1);
        at("(1;", 1, 2);
        at("1);", 1, 1);
        at("1 2;", 1, 2);
        at("1 worth;", 1, 2);
        at("1 not 2;", 1, 2);
        at("1<2<3;", 1, 3);
        at("1<2=3;", 1, 3);
        at("-1;", 1, 0);
        at("1+;", 1, 2);
        at("1 or ;", 1, 5);
        at("1,2;", 1, 1);
        at("((((((", 1, 6);
        at("(((((();", 1, 6);
        at("((((((;", 1, 6);
        at("(((((1)))));", 0, -1);
    }

    private static void tooMuch() {
        fault("sort 0 worth", 2, 5);
        fault("sort 100 worth", 2, 5);
        fault("sort 0001 worth", 2, 5);
        fault("sort 1 worth 100", 2, 13);
        fault("sort 1 worth 99 purse 10", 2, 22);
        fault("sight 3;", 2, 6);
        fault("card 10;", 2, 5);
        fault("least 10;", 2, 6);
        fault("thief 101 5;", 2, 6);
        fault("thief 100 0;", 2, 10);
        fault("thief 100 1000;", 2, 10);
        fault((SORT + "1;").repeat(8) + "sort x", 2, 8 * (SORT.length() + 2));
        at("1000;", 2, 0);
        at("99999999999999999999999999;", 2, 0);
        at("((((((1))))));", 2, 6);
        at("((((((worth", 2, 6);
        at("((((((x", 2, 6);
        at("((((((not", 2, 6);
        at("(((((((", 2, 6);
        at("((((((1000", 2, 6);
        at("(((((1+(2)))))));", 2, 8);
        at("not not not not not not not 1;", 2, 24);
        at("1 and not(not not not not not not not 1;", 2, 34);
    }

    private static void noValue() {
        at("x;", 3, 0);
        at("or;", 3, 0);
        at("1+not 1;", 3, 2);
        at("1<not 1;", 3, 2);
        at("1*and;", 3, 2);
        at("1 and or;", 3, 6);
        at("not sort;", 3, 4);
        at("(gives);", 3, 1);
        at("worthy;", 3, 0);
        at("zz;", 3, 0);
        at("abz;", 3, 0);
    }

    private static void toldAlready() {
        fault("sight 1;sight 1;", 4, 8);
        fault("card 1;glass;card x", 4, 13);
        fault("keeper;keeper;", 4, 7);
        fault("glass; glass;", 4, 7);
        fault("least 0;least", 4, 8);
        fault("thief 0 1;thief", 4, 10);
        fault(SORT + "1;" + SORT + "1;", 0, -1);
    }

    private static void theFirstAndTheLeast() {
        fault("sight 9;sight 9;x", 2, 6);
        fault("1000;", 1, 0);
        at("1 1000;", 1, 2);
        at("((((((?", 1, 6);
    }

    private static void whatAFaultLeaves() {
        GateBox x = Check.made(SORT + "2;card 4;");
        x.give(0, 1);
        x.image();
        Check.feed(x, "keeper;x");
        Check.due("a fault", x.gate(0, 8), 1);
        Check.due("fault()", x.fault(), 7);
        Check.due("the tape is empty", x.count(0), 0);
        Check.due("the gate stays", x.about(0, 0), 1);
        Check.due("its card stays", x.about(0, 2), 4);
        Check.due("it got no keeper", x.about(0, 3), 0);
        Check.due("its book stays", x.about(0, 10), 1);
        Check.due("status", x.count(1), 1);
        Check.due("the image stays", x.restore(), true);

        x.drawn(0, 3, 1);
        x.guess(0, 0, 0, 1);
        Check.due("a text with all clauses", Check.gate(x, 0, SORT + "2;card 4;least 1;sight 2;thief 7 8;keeper;"), 0);
        Check.due("its box is empty", x.about(0, 11), 0);
        x.drawn(0, 400, 1);
        Check.due("some was stolen", x.about(0, 12) > 0, true);
        x.seed(0, 44);
        x.give(0, 4);
        x.image();
        Check.due("another text", Check.gate(x, 0, "glass;"), 0);
        int[] due = {0, 1, -1, 0, 1, 0, 0, 100, 0, 0, 0, 0, 0, 0};
        for (int what = 0; what < due.length; what++) {
            Check.due("all anew: about(0, " + what + ")", x.about(0, what), due[what]);
        }
        Check.due("fault() is none", x.fault(), -1);
        Check.due("all anew: sorts", x.about(0, 0), 0);
        Check.due("all anew: card", x.about(0, 2), -1);
        Check.due("all anew: odds", x.about(0, 8), 0);
        Check.due("all anew: book", x.about(0, 10), 0);
        Check.due("the image is gone", x.restore(), false);
    }

    private static void refusals() {
        GateBox x = new GateBox();
        Check.feed(x, "x");
        Check.due("a fault", x.gate(1, 20), 1);
        Check.feed(x, "keeper;");
        Check.noSuch("gate(2, 7)", () -> x.gate(2, 7));
        Check.noSuch("gate(-1, 99)", () -> x.gate(-1, 99));
        Check.notAsTold("gate(0, 21)", () -> x.gate(0, 21));
        Check.notAsTold("gate(0, -1)", () -> x.gate(0, -1));
        Check.due("nothing changes: the tape", x.count(0), 20);
        Check.due("nothing changes: the fault", x.fault(), 0);
        Check.due("nothing changes: the status", x.count(1), 1);
        Check.due("gate(0, 7)", x.gate(0, 7), 0);
        Check.due("the keeper", x.about(0, 3), 1);

        x.image();
        Check.due("gate(1, 0)", x.gate(1, 0), 0);
        Check.due("the image is gone by the other gate, too", x.restore(), false);
        Check.due("the other gate stays", x.about(0, 3), 1);
    }

    private static void at(String expr, int kind, int place) {
        fault(SORT + expr, expr.endsWith(";") && kind == 0 ? 0 : kind, kind == 0 ? -1 : SORT.length() + place);
    }

    private static void fault(String text, int kind, int place) {
        GateBox x = new GateBox();
        Check.due("gate of " + text, Check.gate(x, 0, text), kind);
        Check.due("fault() of " + text, x.fault(), place);
    }
}
