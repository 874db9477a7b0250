/** Promises 6, 7, 10 and 11: about, sort, seed, set. */
final class AboutTest {
    public static void main(String[] args) {
        about();
        seed();
        set();
        Check.end();
    }

    private static void about() {
        GateBox x = Check.made("sort 99 worth 98 purse 9 gives 1;sort 2 worth 0 purse 0 gives 2;sight 2;card 0;keeper;"
                + "glass;least 6;thief 55 321;");
        int[] due = {2, 2, 0, 1, 1, 6, 55, 321, 101, 0, 0, 0, 0, 0};
        for (int what = 0; what < due.length; what++) {
            Check.due("about(0, " + what + ")", x.about(0, what), due[what]);
        }
        Check.due("the other gate", x.about(1, 0), 0);
        int[] first = {99, 98, 9};
        int[] second = {2, 0, 0};
        for (int what = 0; what < 3; what++) {
            Check.due("sort(0, 0, " + what + ")", x.sort(0, 0, what), first[what]);
            Check.due("sort(0, 1, " + what + ")", x.sort(0, 1, what), second[what]);
        }
        Check.noSuch("about(0, 14)", () -> x.about(0, 14));
        Check.noSuch("about(0, -1)", () -> x.about(0, -1));
        Check.noSuch("about(-1, 0)", () -> x.about(-1, 0));
        Check.noSuch("sort(0, 2, 0)", () -> x.sort(0, 2, 0));
        Check.noSuch("sort(0, -1, 0)", () -> x.sort(0, -1, 0));
        Check.noSuch("sort(0, 0, 3)", () -> x.sort(0, 0, 3));
        Check.noSuch("sort(0, 0, -1)", () -> x.sort(0, 0, -1));
        Check.noSuch("sort(1, 0, 0)", () -> x.sort(1, 0, 0));
        Check.noSuch("sort(2, 0, 0)", () -> x.sort(2, 0, 0));
    }

    private static void seed() {
        GateBox x = Check.made("sort 1 worth 9 purse 9 gives 3;sight 2;thief 0 1;");
        x.drawn(0, 4, 1);
        x.guess(0, 0, 0, 5);
        x.seed(0, 99);
        Check.due("the seed", x.about(0, 9), 99);
        Check.due("the book is gone", x.about(0, 10), 0);
        Check.due("the state now", x.about(0, 13), 99);
        Check.due("the box stays", x.about(0, 11), 12);
        Check.due("the guess stays", x.credit(0, 0), 1000000);
        Check.due("the other gate's seed", x.about(1, 9), 0);
        Check.noSuch("seed(0, 100)", () -> seeded(x, 0, 100));
        Check.noSuch("seed(0, -1)", () -> seeded(x, 0, -1));
        Check.noSuch("seed(2, 0)", () -> seeded(x, 2, 0));
        Check.noSuch("seed(1, 10)", () -> seeded(x, 1, 10));
        Check.due("sight 0", Check.gate(x, 1, "sight 0;"), 0);
        Check.due("its only state", seeded(x, 1, 0), 0);
        Check.noSuch("another one", () -> seeded(x, 1, 1));
    }

    private static long seeded(GateBox x, int gate, int state) {
        x.seed(gate, state);
        return x.about(gate, 9);
    }

    private static void set() {
        GateBox x = Check.made("sort 1 worth 9 purse 9 gives 3;sight 2;card 3;keeper;least 7;thief 9 8;");
        x.seed(0, 45);
        x.give(0, 6);
        told(x, 175, new int[] {1, 2, 9, 1, 1, 3, 9, 8, 1, 45, 1, 0, 0, 56});
        told(x, 0, new int[] {1, 2, -1, 0, 0, 0, 9, 8, 1, 45, 1, 0, 0, 56});
        told(x, 1, new int[] {1, 2, 0, 0, 0, 0, 9, 8, 1, 45, 1, 0, 0, 56});
        told(x, 44 + 22 + 5, new int[] {1, 2, 4, 1, 0, 1, 9, 8, 1, 45, 1, 0, 0, 56});
        told(x, 88 + 11, new int[] {1, 2, -1, 0, 1, 2, 9, 8, 1, 45, 1, 0, 0, 56});
        Check.due("the other gate", x.about(1, 4), 0);
        Check.noSuch("set(0, 176)", () -> x.set(0, 176) ? 1 : 0);
        Check.noSuch("set(0, -1)", () -> x.set(0, -1) ? 1 : 0);
        Check.noSuch("set(2, 0)", () -> x.set(2, 0) ? 1 : 0);
        Check.due("a refused setting changes nothing", x.about(0, 5), 2);
    }

    private static void told(GateBox x, int setting, int[] due) {
        Check.due("set(0, " + setting + ")", x.set(0, setting), true);
        for (int what = 0; what < due.length; what++) {
            Check.due("about(0, " + what + ") of setting " + setting, x.about(0, what), due[what]);
        }
    }
}
