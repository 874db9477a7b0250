/** Promises 8 and 9: what sorts give, and the state behind a gift. */
final class GivesTest {
    public static void main(String[] args) {
        signs();
        values();
        least();
        next();
        refusals();
        Check.end();
    }

    private static void signs() {
        gives("7", 7);
        gives("10", 9);
        gives("2-5", 0);
        gives("9-3-2", 4);
        gives("2+3*2", 8);
        gives("(2+3)*2-3", 7);
        gives("9/2/2", 2);
        gives("9/2*2", 8);
        gives("(0-7)/2+9", 6);
        gives("5/0+3", 3);
        gives("0/0+1", 1);
        gives("999*999*999*999*999<0", 1);
        gives("999*999*999*999<0", 1);
        gives("999*999*999*2/999/999-990-999", 9);
        gives("999*999*999*999+427*999*999+270*999+520", 6);
        gives("(0-2*128*128*128*128*8-0)/(0-1)<0", 0);
        gives("(0-128*128*128*8*128)/(0-1)<0", 1);
        gives("3<4", 1);
        gives("4<4", 0);
        gives("4=4", 1);
        gives("4=5", 0);
        gives("5 and 6", 1);
        gives("5 and 0", 0);
        gives("0 or 7", 1);
        gives("0 or 0", 0);
        gives("not 7", 0);
        gives("not 0", 1);
        gives("not not 7", 1);
        gives("not 1<1", 1);
        gives("not 3 and 0 or 1", 1);
        gives("1 or 1 and 0", 1);
        gives("(1 or 1) and 0", 0);
        gives("not 0 = 0", 0);
        gives("1<2+1", 1);
        gives("3+(1<2)*2", 5);
        gives("((((((6))))))".substring(1, 12), 6);
        gives("not not not not not not 5", 1);
    }

    private static void gives(String expr, int due) {
        GateBox x = Check.made("sort 1 worth 50 purse 9 gives " + expr + ";");
        Check.due("gives of " + expr, x.gives(0, 0, 0), due);
    }

    private static void values() {
        GateBox x = Check.made("sort 1 worth 7 purse 9 gives worth;sort 1 worth 7 purse 4 gives purse;"
                + "sort 1 worth 7 purse 9 gives last;sort 1 worth 7 purse 9 gives mean;sort 1 worth 7 purse 9 gives card;"
                + "sort 1 worth 7 purse 9 gives sign;sort 1 worth 7 purse 9 gives keeper*2+glass;"
                + "sort 1 worth 7 purse 9 gives least;sight 2;");
        told(x, 0, 58, 7, 4, 0, 0, 0, 0, 0, 0);
        told(x, 11, 58, 7, 4, 8, 6, 0, 0, 1, 0);
        told(x, 11, 3, 7, 4, 3, 1, 0, 0, 1, 0);
        told(x, 11, 20, 7, 4, 0, 1, 0, 0, 1, 0);
        told(x, 11 + 1, 99, 7, 4, 9, 9, 0, 1, 1, 0);
        told(x, 22 + 7, 99, 7, 4, 0, 0, 6, 1, 2, 0);
        told(x, 132 + 22 + 11 + 10, 99, 7, 4, 9, 9, 9, 3, 3, 3);
        GateBox y = Check.made("sort 1 worth 7 purse 9 gives last;sort 1 worth 7 purse 9 gives mean;glass;");
        Check.due("last with sight 1", y.gives(0, 0, 7), 7);
        Check.due("mean with sight 1", y.gives(0, 1, 7), 7);
        GateBox z = Check.made("sort 1 worth 7 purse 9 gives 5+last+mean;glass;sight 0;");
        Check.due("without sight", z.gives(0, 0, 0), 5);
    }

    private static void told(GateBox x, int setting, int state, int... due) {
        x.set(0, setting);
        for (int sort = 0; sort < due.length; sort++) {
            Check.due("setting " + setting + ": gives(0, " + sort + ", " + state + ")", x.gives(0, sort, state), due[sort]);
        }
    }

    private static void least() {
        GateBox x = Check.made("sort 1 worth 9 purse 5 gives 4;sort 1 worth 4 purse 9 gives 1;sort 1 worth 5 purse 5 gives 0;"
                + "sort 1 worth 9 purse 4 gives 4;sort 1 worth 0 purse 9 gives 5;least 5;");
        int[] due = {5, -1, 5, -1, 5};
        for (int sort = 0; sort < due.length; sort++) {
            Check.due("least 5: gives(0, " + sort + ", 3)", x.gives(0, sort, 3), due[sort]);
        }
    }

    private static void next() {
        GateBox x = Check.made("sight 2;");
        Check.due("next(0, 46, 5)", x.next(0, 46, 5), 65);
        Check.due("next(0, 0, 9)", x.next(0, 0, 9), 9);
        Check.due("next(0, 99, 0)", x.next(0, 99, 0), 90);
        Check.due("next(1, 4, 6)", x.next(1, 4, 6), 6);
        Check.due("sight 0", Check.gate(x, 1, "sight 0;"), 0);
        Check.due("next(1, 0, 6)", x.next(1, 0, 6), 0);
        Check.noSuch("next(1, 1, 6)", () -> x.next(1, 1, 6));
        Check.noSuch("next(0, 100, 6)", () -> x.next(0, 100, 6));
        Check.noSuch("next(0, -1, 6)", () -> x.next(0, -1, 6));
        Check.noSuch("next(0, 4, 10)", () -> x.next(0, 4, 10));
        Check.noSuch("next(0, 4, -1)", () -> x.next(0, 4, -1));
        Check.noSuch("next(2, 4, 1)", () -> x.next(2, 4, 1));
    }

    private static void refusals() {
        GateBox x = Check.made("sort 1 worth 7 purse 9 gives 5;");
        Check.noSuch("gives(2, 0, 0)", () -> x.gives(2, 0, 0));
        Check.noSuch("gives(1, 0, 0)", () -> x.gives(1, 0, 0));
        Check.noSuch("gives(0, 1, 0)", () -> x.gives(0, 1, 0));
        Check.noSuch("gives(0, -1, 0)", () -> x.gives(0, -1, 0));
        Check.noSuch("gives(0, 0, 10)", () -> x.gives(0, 0, 10));
        Check.noSuch("gives(0, 0, -1)", () -> x.gives(0, 0, -1));
    }
}
