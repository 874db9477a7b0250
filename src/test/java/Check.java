import java.util.NoSuchElementException;

/** Counts answers that are not as due; each test's main ends by Check.end(). */
final class Check {
    /** What stands for an exception where answers are compared as numbers. */
    static final long NO_SUCH = Long.MIN_VALUE;
    static final long NOT_AS_TOLD = Long.MIN_VALUE + 1;
    static final long OTHER = Long.MIN_VALUE + 2;

    interface Call {
        long answer();
    }

    private static int wrong = 0;
    private static int asked = 0;
    private static int sentences = 0;
    private static String sentence = "";

    private Check() {
    }

    /** What follows, until the next one, tests this sentence of the document. */
    static void sentence(String text) {
        sentences++;
        sentence = "\"" + text + "\": ";
    }

    static void due(String call, long got, long want) {
        asked++;
        if (got != want) {
            wrong++;
            System.out.println(sentence + call + " answered " + told(got) + ", due is " + told(want));
        }
    }

    static void due(String call, boolean got, boolean want) {
        due(call, got ? 1 : 0, want ? 1 : 0);
    }

    static void due(String call, String got, String want) {
        due(call + ": " + got + " beside " + want, got.equals(want), true);
    }

    static void noSuch(String call, Call made) {
        due(call, answer(made), NO_SUCH);
    }

    static void notAsTold(String call, Call made) {
        due(call, answer(made), NOT_AS_TOLD);
    }

    static long answer(Call made) {
        try {
            return made.answer();
        } catch (NoSuchElementException e) {
            return NO_SUCH;
        } catch (IllegalArgumentException e) {
            return NOT_AS_TOLD;
        } catch (RuntimeException e) {
            System.out.println(e);
            return OTHER;
        }
    }

    /** Feeds a text and has a gate read it. */
    static int gate(GateBox x, int gate, String text) {
        feed(x, text);
        return x.gate(gate, text.length());
    }

    static void feed(GateBox x, String text) {
        for (int i = 0; i < text.length(); i += 20) {
            int[] f = five(text, i);
            x.feed(f[0], f[1], f[2], f[3], f[4]);
        }
    }

    /** Twenty bytes of a text as feed() takes them; behind its end there are blanks. */
    static int[] five(String text, int from) {
        int[] five = new int[5];
        for (int i = 0; i < 20; i++) {
            five[i / 4] = five[i / 4] << 8 | (from + i < text.length() ? text.charAt(from + i) & 255 : ' ');
        }
        return five;
    }

    /** The seed of a day DRAWN that becomes this one by so many steps. */
    static int back(int seed, int steps) {
        // Newton's steps find what 1103515245 times it is 1 among ints that wrap
        int inverse = 1103515245;
        for (int i = 0; i < 5; i++) {
            inverse *= 2 - 1103515245 * inverse;
        }
        int back = seed;
        for (int i = 0; i < steps; i++) {
            back = (back - 12345) * inverse;
        }
        return back;
    }

    static GateBox made(String text) {
        GateBox x = new GateBox();
        due("a text without a fault: " + text, gate(x, 0, text), 0);
        return x;
    }

    static void end() {
        System.out.println((sentences > 0 ? sentences + " sentences, " : "") + asked + " answers, " + wrong + " not as due");
        if (wrong > 0) {
            System.exit(1);
        }
    }

    /** All that an object tells of itself, so that what a call changed, or didn't, can be seen; some 80 calls. */
    static String seen(GateBox x) {
        StringBuilder seen = new StringBuilder();
        seen.append("fault ").append(x.fault()).append(" count");
        for (int what = 0; what < 4; what++) {
            seen.append(" ").append(x.count(what));
        }
        for (int gate = 0; gate < 2; gate++) {
            seen.append("; gate ").append(gate);
            for (int what = 0; what < 14; what++) {
                seen.append(" ").append(x.about(gate, what));
            }
            for (int guess = 0; guess < 4; guess++) {
                seen.append(" ").append(x.credit(gate, guess));
            }
            seen.append(" book");
            for (int i = 0; i < x.about(gate, 10) && i < 5; i++) {
                seen.append(" ").append(x.given(gate, i, 0)).append("/").append(x.given(gate, i, 2));
            }
            seen.append(" coin ").append(x.coin(gate, 2, 0)).append(" ").append(x.coin(gate, 2, 1));
        }
        return seen.toString();
    }

    private static String told(long answer) {
        return answer == NO_SUCH ? "NoSuchElementException" : answer == NOT_AS_TOLD ? "IllegalArgumentException"
                : answer == OTHER ? "another exception" : Long.toString(answer);
    }
}
