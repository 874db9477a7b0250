/** Promises 32 to 35: days drawn, the box, images. */
final class DrawnTest {
    public static void main(String[] args) {
        drawn();
        fullBook();
        thief();
        image();
        refusals();
        Check.end();
    }

    private static void drawn() {
        GateBox x = Check.made("sort 3 worth 9 purse 9 gives 1;sort 2 worth 1 purse 9 gives 1;sort 5 worth 9 purse 9 gives last;"
                + "least 2;glass;sight 2;");
        x.seed(0, 40);
        int[] due = {2, -1, 2};
        int seed = -77;
        int together = 0;
        int box = 0;
        int gifts = 0;
        for (int k = 0; k < 30; k++) {
            seed = seed * 1103515245 + 12345;
            int draw = (seed >> 16 & 32767) % 10;
            int sort = draw < 3 ? 0 : draw < 5 ? 1 : 2;
            int state = x.about(0, 13);
            int gift = x.gives(0, sort, state);
            // one person by the seed ahead of this draw
            Check.due("person " + k, x.drawn(0, 1, Check.back(seed, 1)), Math.max(gift, 0));
            if (gift >= 0) {
                Check.due("the gift of " + k, x.given(0, gifts, 0), gift);
                gifts++;
                Check.due("the state behind " + k, x.about(0, 13), x.next(0, state, gift));
            } else {
                Check.due("kept away, nothing is remembered " + k, x.about(0, 13), state);
            }
            box += Math.max(gift, 0);
            together += Math.max(gift, 0);
            Check.due("the book behind " + k, x.about(0, 10), gifts);
            Check.due("the box behind " + k, x.about(0, 11), box);
        }
        x.seed(0, 40);
        x.empty(0);
        Check.due("thirty at once", x.drawn(0, 30, -77), together);
        Check.due("its book", x.about(0, 10), gifts);
        Check.due("empty", x.empty(0), together);
        Check.due("empty again", x.empty(0), 0);
        Check.due("due gifts", x.gives(0, 0, 0), due[0]);
        Check.due("due gifts", x.gives(0, 1, 0), due[1]);
        Check.due("due gifts", x.gives(0, 2, 0), due[2]);
        Check.due("nothing was stolen", x.about(0, 12), 0);
    }

    private static void fullBook() {
        GateBox x = Check.made("sort 1 worth 9 purse 9 gives last+1-(last=9)*9;glass;");
        Check.due("drawn 195", x.drawn(0, 195, 5), sum(195));
        Check.due("book", x.about(0, 10), 195);
        Check.due("drawn 15", x.drawn(0, 15, 5), sum(210) - sum(195));
        Check.due("the book is full", x.about(0, 10), 200);
        Check.due("the state goes on", x.about(0, 13), sum(210) - sum(209));
        Check.due("the last gift of the book", x.given(0, 199, 0), sum(200) - sum(199));
        Check.due("the box has all", x.about(0, 11), sum(210));
        Check.due("no more gifts", x.give(0, 0), -1);
    }

    private static int sum(int persons) {
        int sum = 0;
        int last = 0;
        for (int k = 0; k < persons; k++) {
            last = last == 9 ? 1 : last + 1;
            sum += last;
        }
        return sum;
    }

    private static void thief() {
        String sort = "sort 1 worth 9 purse 9 gives 4;";
        GateBox x = Check.made(sort + "thief 100 40;");
        Check.due("nine", x.drawn(0, 9, 1), 36);
        Check.due("nothing stolen behind nine", x.about(0, 12), 0);
        Check.due("one more, of another call", x.drawn(0, 1, 1), 4);
        Check.due("nothing stolen behind the first of a call", x.about(0, 11), 40);
        Check.due("ten more", x.drawn(0, 10, 1), 40);
        Check.due("all is stolen", x.about(0, 12), 80);
        Check.due("the box", x.about(0, 11), 0);
        Check.due("25 more: 40 twice", x.drawn(0, 25, 1), 100);
        Check.due("stolen", x.about(0, 12), 160);
        Check.due("the box", x.about(0, 11), 20);
        Check.due("the book stays", x.about(0, 10), 45);
        GateBox y = Check.made(sort + "thief 100 41;");
        y.drawn(0, 10, 1);
        Check.due("not enough to steal", y.about(0, 11), 40);
        GateBox z = Check.made(sort + "thief 0 1;");
        z.drawn(0, 400, 1);
        Check.due("without a chance", z.about(0, 11), 1600);
        chance(sort);
        // the thief's draw goes on with the seed: two sorts show it
        GateBox w = Check.made("sort 1 worth 9 purse 9 gives 1;sort 1 worth 9 purse 9 gives 2;thief 0 1;");
        GateBox v = Check.made("sort 1 worth 9 purse 9 gives 1;sort 1 worth 9 purse 9 gives 2;thief 0 999;");
        Check.due("ten alike", w.drawn(0, 10, 3), v.drawn(0, 10, 3));
        w.drawn(0, 40, 3);
        v.drawn(0, 40, 3);
        boolean unlike = false;
        for (int i = 20; i < 50; i++) {
            unlike |= w.given(0, i, 0) != v.given(0, i, 0);
        }
        Check.due("a draw of the thief takes a seed", unlike, true);
    }

    private static void chance(String sort) {
        for (int chance = 20; chance <= 80; chance += 20) {
            for (int start = 0; start < 20; start++) {
                GateBox x = Check.made(sort + "thief " + chance + " 1;");
                x.drawn(0, 10, start);
                int seed = start;
                for (int k = 0; k < 11; k++) {
                    seed = seed * 1103515245 + 12345;
                }
                boolean stolen = (seed >> 16 & 32767) % 100 < chance;
                Check.due("chance " + chance + " seed " + start, x.about(0, 12), stolen ? 40 : 0);
            }
        }
    }

    private static void image() {
        GateBox x = Check.made("sort 1 worth 9 purse 9 gives 4;sight 2;thief 100 30;");
        Check.due("none yet", x.restore(), false);
        x.seed(0, 3);
        x.drawn(0, 13, 1);
        x.guess(0, 1, 0, 5);
        x.give(0, 10);
        x.guess(0, 1, 0, 100);
        x.give(1, 7);
        x.image();
        Check.due("drawn", x.drawn(0, 9, 1), 36);
        x.drawn(0, 10, 1);
        x.empty(0);
        x.seed(0, 9);
        x.seed(1, 8);
        x.give(0, 2);
        x.give(0, -1);
        x.guess(0, 1, 0, 0);
        x.guess(0, 2, 0, 1);
        x.guess(0, 2, 0, -1);
        x.set(0, 12);
        x.give(1, 5);
        x.seed(0, 0);
        for (int i = 0; i < 20; i++) {
            x.give(0, 9);
        }
        Check.due("a fault", Check.gate(x, 0, "x"), 1);
        Check.feed(x, "keeper;");
        for (int k = 0; k < 2; k++) {
            Check.due("restore()", x.restore(), true);
            int[] due = {1, 2, 0, 0, 1, 0, 100, 30, 1, 3, 13, 12, 40, 44};
            for (int what = 0; what < due.length; what++) {
                Check.due("about(0, " + what + ") restored", x.about(0, what), due[what]);
            }
            for (int i = 0; i < 13; i++) {
                Check.due("gift " + i + " restored", x.given(0, i, 0), 4);
            }
            Check.due("the other gate's seed", x.about(1, 9), 0);
            Check.due("the other gate's book", x.given(1, 0, 0), 7);
            Check.due("the other gate's state", x.about(1, 13), 7);
            Check.due("a guess told", x.credit(0, 1), 1000000);
            Check.due("a guess not told", x.credit(0, 2), -1);
            Check.due("texts refused", x.count(1), 0);
            Check.due("gifts refused", x.count(2), 1);
            Check.due("guesses refused", x.count(3), 1);
            Check.due("the tape stays", x.count(0), 20);
            Check.due("the fault stays", x.fault(), 0);
            x.drawn(0, 50, 3);
            x.give(0, 10);
        }
        x.image();
        x.empty(0);
        x.restore();
        Check.due("in place of another one", x.about(0, 10), 63);
    }

    private static void refusals() {
        GateBox x = Check.made("sort 1 worth 9 purse 9 gives 1;");
        Check.noSuch("drawn(2, 401, 0)", () -> x.drawn(2, 401, 0));
        Check.notAsTold("drawn(0, 0, 0)", () -> x.drawn(0, 0, 0));
        Check.notAsTold("drawn(0, 401, 0)", () -> x.drawn(0, 401, 0));
        Check.notAsTold("drawn(0, -1, 0)", () -> x.drawn(0, -1, 0));
        Check.notAsTold("drawn(1, 1, 0) without sorts", () -> x.drawn(1, 1, 0));
        Check.noSuch("empty(2)", () -> x.empty(2));
        Check.noSuch("empty(-1)", () -> x.empty(-1));
        Check.due("empty(1)", x.empty(1), 0);
    }
}
