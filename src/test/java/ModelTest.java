import java.lang.reflect.InvocationTargetException;
import java.lang.reflect.Method;
import java.util.ArrayList;
import java.util.Comparator;
import java.util.List;
import java.util.NoSuchElementException;
import java.util.Random;

/** All promises: long runs of drawn calls, the class beside the Model. The draws are the same each time. */
final class ModelTest {
    private static final String[] WORDS = {"sort", "worth", "purse", "gives", "sight", "card", "keeper", "glass", "least",
        "thief", "or", "and", "not", "last", "mean", "sign", "x", "sorts", ";", "(", ")", "+", "-", "*", "/", "<", "=",
        "0", "1", "9", "10", "99", "100", "999", "1000", "007", "0001", "\n", "\t", "A", "\u00e9", ","};
    private static final String[] VALUES = {"worth", "purse", "last", "mean", "card", "sign", "keeper", "glass", "least"};

    private final Random random;
    private final List<Method> calls = new ArrayList<>();
    private GateBox x = new GateBox();
    private Model model = new Model();

    private ModelTest(long seed) {
        random = new Random(seed);
        for (Method m : GateBox.class.getDeclaredMethods()) {
            if (java.lang.reflect.Modifier.isPublic(m.getModifiers())) {
                calls.add(m);
            }
        }
        calls.sort(Comparator.comparing(Method::getName));
    }

    public static void main(String[] args) throws Exception {
        long runs = args.length > 0 ? Long.parseLong(args[0]) : 150;
        for (long seed = 1; seed <= runs; seed++) {
            new ModelTest(seed).run(seed);
        }
        Check.end();
    }

    private void run(long seed) throws Exception {
        for (int k = 0; k < 120; k++) {
            if (k == 0 || k == 1 || pick(40) == 0) {
                tell(k < 2 ? k : pick(2));
                continue;
            }
            Method call = calls.get(pick(calls.size()));
            if (call.getName().equals("gate") && pick(8) > 0 || call.getName().equals("turn") && pick(4) > 0) {
                continue;
            }
            compare("seed " + seed + " call " + k, call.getName(), arguments(call));
        }
    }

    private int pick(int n) {
        return random.nextInt(n);
    }

    private void tell(int gate) throws Exception {
        String text = pick(6) == 0 ? wild() : pick(3) == 0 ? spoiled(gateText()) : gateText();
        if (text.length() > 680) {
            text = text.substring(0, 680);
        }
        while (x.count(0) > 0) {
            compare("emptying", "gate", new Object[] {5, 0});
            compare("emptying", "gate", new Object[] {1, x.count(0)});
        }
        Check.feed(x, text);
        for (int i = 0; i < text.length(); i += 20) {
            int[] f = Check.five(text, i);
            model.feed(f[0], f[1], f[2], f[3], f[4]);
        }
        compare("text " + text, "gate", new Object[] {gate, text.length()});
        compare("text " + text, "fault", new Object[0]);
    }

    private Object[] arguments(Method call) {
        Object[] args = new Object[call.getParameterCount()];
        for (int i = 0; i < args.length; i++) {
            args[i] = argument(call.getName(), i);
        }
        return args;
    }

    private int argument(String call, int i) {
        int odd = pick(60);
        if (odd < 3) {
            return odd == 0 ? -1 : odd == 1 ? random.nextInt() : pick(500) - 20;
        }
        if (call.equals("feed") || call.equals("drawn") && i == 2) {
            return random.nextInt();
        }
        if (i == 0 && !call.equals("near") && !call.equals("count")) {
            return pick(2);
        }
        String name = call + i;
        switch (name) {
            case "sort1": case "gives1": case "who1": case "guess2": return pick(4);
            case "gives2": case "next1": case "seed1": case "cases2": return pick(pick(2) == 0 ? 10 : 100);
            case "set1": case "would1": return pick(176);
            case "coin1": case "cases1": case "mixed1": case "drift1": case "drawn1": return pick(pick(2) == 0 ? 8 : 402);
            case "near0": case "best1": case "would2": case "card1": case "seeded1": return pick(pick(8) == 0 ? 62 : 6);
            case "turn1": return pick(9000);
            case "rest1": return pick(3) - 1;
            case "best2": return pick(3000) - 100;
            case "mixed2": return pick(53);
            case "about1": return pick(15);
            case "next2": case "price1": case "mixed3": case "give1": return pick(10);
            case "given1": return pick(6);
            case "guess3": return pick(102);
            default: return pick(4);
        }
    }

    private void compare(String when, String name, Object[] args) throws Exception {
        long got = answer(x, GateBox.class, name, args);
        long due = answer(model, Model.class, name, args);
        Check.due(when + ": " + name + java.util.Arrays.toString(args), got, due);
    }

    private static long answer(Object on, Class<?> type, String name, Object[] args) throws Exception {
        for (Method m : type.getMethods()) {
            if (m.getName().equals(name) && m.getParameterCount() == args.length) {
                try {
                    Object answer = m.invoke(on, args);
                    return answer == null ? 0 : answer instanceof Boolean b ? b ? 1 : 0 : (Integer) answer;
                } catch (InvocationTargetException e) {
                    Throwable t = e.getCause();
                    return t instanceof NoSuchElementException ? Check.NO_SUCH
                            : t.getClass() == IllegalArgumentException.class ? Check.NOT_AS_TOLD : Check.OTHER;
                }
            }
        }
        throw new IllegalStateException(name);
    }

    private String wild() {
        StringBuilder text = new StringBuilder(pick(3) == 0 ? "" : "sort 1 worth 3 purse 4 gives ");
        for (int i = pick(12); i >= 0; i--) {
            text.append(WORDS[pick(WORDS.length)]).append(pick(4) == 0 ? "" : " ");
        }
        return text.toString();
    }

    /** A text in which a word or two went astray. */
    private String spoiled(String text) {
        StringBuilder spoiled = new StringBuilder(text);
        for (int i = pick(2); i >= 0 && spoiled.length() > 0; i--) {
            int at = pick(spoiled.length());
            switch (pick(3)) {
                case 0 -> spoiled.deleteCharAt(at);
                case 1 -> spoiled.insert(at, WORDS[pick(WORDS.length)]);
                default -> spoiled.setLength(at);
            }
        }
        return spoiled.toString();
    }

    private String gateText() {
        StringBuilder text = new StringBuilder();
        int sorts = pick(6) == 0 ? pick(10) : 1 + pick(4);
        for (int i = 0; i < sorts; i++) {
            text.append("sort ").append(1 + pick(pick(2) == 0 ? 3 : 99)).append(" worth ").append(pick(pick(2) == 0 ? 10 : 100));
            text.append(" purse ").append(pick(10)).append(" gives ");
            expr(text, 0, 9);
            text.append(";");
        }
        String[] clauses = {"sight " + pick(3) + ";", "card " + pick(10) + ";", "keeper;", "glass;", "least " + pick(6) + ";",
            "thief " + pick(101) + " " + (1 + pick(60)) + ";", "glass;", "sight 2;"};
        for (int i = 0; i < 6; i++) {
            if (pick(2) == 0) {
                text.insert(pick(2) == 0 ? 0 : text.length(), clauses[i]);
            }
        }
        return text.toString();
    }

    private void expr(StringBuilder text, int depth, int many) {
        int kind = pick(depth > 7 ? 3 : many);
        if (kind < 2) {
            text.append(VALUES[pick(VALUES.length)]);
        } else if (kind == 2) {
            text.append(pick(5) == 0 ? pick(1000) : pick(10));
        } else if (kind == 3) {
            text.append("(");
            expr(text, depth + 1, 10);
            text.append(")");
        } else if (kind == 4) {
            text.append("not ");
            expr(text, depth + 1, 8);
        } else {
            String[] signs = {"+", "-", "*", "/", "<", "=", " and ", " or "};
            expr(text, depth + 1, 6);
            text.append(signs[pick(signs.length)]);
            expr(text, depth + 1, 6);
        }
    }
}
