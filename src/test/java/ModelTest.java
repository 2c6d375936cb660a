import java.lang.reflect.InvocationTargetException;
import java.lang.reflect.Method;
import java.nio.charset.StandardCharsets;
import java.util.Arrays;
import java.util.HashMap;
import java.util.Map;
import java.util.Random;

/** Promises 1 to 42: long runs by lot (always the same ones) on the class and on Model, side by side. */
public final class ModelTest {
    private static final int RUNS = 1500;
    private static final int CALLS = 512;
    private static final String[] NAMES = {
        "yard", "told", "told", "as", "turns", "set", "deal", "seed",
        "rule", "at", "ball", "ball", "layer", "pack", "pack", "pack", "lose", "lose", "find", "thing", "thing", "days", "days",
        "behind", "gone", "way", "most", "warmed", "fine",
        "TEXT", "TEXT", "feed", "trim", "text", "textTold", "why",
        "sheet", "mark", "mark", "mark", "pour", "reads", "copy", "lay", "lay", "ask", "item", "rest",
        "tell", "check", "CHECK", "keep", "back", "count"};

    private final Map<String, Method> methods = new HashMap<>();
    private final Random lot;
    private SnowOwed x = new SnowOwed();
    private Model model = new Model();
    private int calls = 0;
    private final StringBuilder log = new StringBuilder();

    private ModelTest(int seed) {
        lot = new Random(seed);
        for (Method m : SnowOwed.class.getDeclaredMethods()) {
            methods.put(m.getName(), m);
        }
    }

    public static void main(String[] args) throws ReflectiveOperationException {
        for (int seed = 1; seed <= RUNS; seed++) {
            new ModelTest(seed).run(seed);
        }
        Due.end();
    }

    private void run(int seed) throws ReflectiveOperationException {
        boolean late = seed % 10 == 0;
        for (int i = 0; late && i < 99; i++) {
            both("days", 100);
        }
        while (calls < CALLS) {
            String name = NAMES[lot.nextInt(NAMES.length)];
            boolean right;
            if (name.equals("TEXT")) {
                right = tellText();
            } else if (name.equals("CHECK")) {
                right = checkDays();
            } else {
                right = both(name, argumentsOf(name));
            }
            if (!right) {
                System.out.println("run " + seed + ", the calls:\n" + log);
                return;
            }
        }
    }

    private boolean both(String name, int... a) throws ReflectiveOperationException {
        calls++;
        Object[] boxed = Arrays.stream(a).boxed().toArray();
        int got;
        try {
            got = (Integer) methods.get(name).invoke(x, boxed);
        } catch (InvocationTargetException e) {
            System.out.println(name + Arrays.toString(a) + " threw " + e.getCause() + "\n" + log);
            Due.isTrue("throws nothing", false);
            return false;
        }
        int due = model.call(name, a);
        log.append("  ").append(name).append(Arrays.toString(a)).append(" -> ").append(due).append('\n');
        Due.due(name + Arrays.toString(a), got, due);
        return got == due;
    }

    private int[] argumentsOf(String name) {
        if (name.equals("way")) {
            int n = lot.nextInt(20) == 0 ? lot.nextInt(8) - 1 : 1 + lot.nextInt(3);
            return new int[] {n, lot.nextInt(4) == 0 ? odd() : lot.nextInt(3)};
        }
        int[] a = new int[methods.get(name).getParameterCount()];
        int[][] usual = usualOf(name);
        for (int i = 0; i < a.length; i++) {
            int least = usual[i][0];
            int most = usual[i][1];
            a[i] = lot.nextInt(25) == 0 ? odd() : least + lot.nextInt(most - least + 1);
        }
        if (name.equals("mark") && lot.nextInt(8) == 0) {
            a[2] = Due.NONE;
        }
        return a;
    }

    private int odd() {
        int[] odd = {Integer.MIN_VALUE, Integer.MAX_VALUE, -1, 0, 1, 10, 11, 24, 25, 30, 31, 99, 100, 999, 1000, 99999, 100000,
            -99999, -100000, 32768, -32769, Due.NONE, Due.BAD, lot.nextInt()};
        return odd[lot.nextInt(odd.length)];
    }

    private static int[][] rangesOf(int... bounds) {
        int[][] ranges = new int[bounds.length / 2][];
        for (int i = 0; i < ranges.length; i++) {
            ranges[i] = new int[] {bounds[2 * i], bounds[2 * i + 1]};
        }
        return ranges;
    }

    private int[][] usualOf(String name) {
        int big = 1000000000;
        switch (name) {
            case "yard": return rangesOf(0, 5, 0, 999, 1, 60);
            case "told": return rangesOf(0, 9, 0, 7);
            case "as": case "turns": return rangesOf(0, 9, 0, 5);
            case "set": return rangesOf(0, 9, 1, 2, 0, 300);
            case "deal": return rangesOf(1, 3);
            case "seed": return rangesOf(-big, big);
            case "rule": return rangesOf(0, 2, -3, lot.nextBoolean() ? 9 : 99);
            case "at": case "fine": return rangesOf(0, 9);
            case "ball": return rangesOf(0, 4);
            case "layer": return rangesOf(0, lot.nextBoolean() ? 3 : 30, 0, 1);
            case "pack": return rangesOf(0, 9, 1, lot.nextBoolean() ? 6 : 999);
            case "lose": case "find": case "thing": return rangesOf(0, 5);
            case "days": return rangesOf(1, lot.nextInt(5) == 0 ? 100 : 3);
            case "behind": return rangesOf(0, lot.nextInt(3) == 0 ? 100 : 6, 0, 3);
            case "warmed": return rangesOf(0, 3, 0, 1);
            case "feed": return rangesOf(0, big, 0, big, 0, big);
            case "trim": return rangesOf(0, 40);
            case "textTold": return rangesOf(0, 13, 0, 1);
            case "why": return rangesOf(0, 2);
            case "sheet": return rangesOf(0, 3, lot.nextInt(6) == 0 ? -1 : 0, 1, lot.nextInt(9) == 0 ? -3 : 0, 24);
            case "mark": return rangesOf(0, 3, 0, lot.nextBoolean() ? 4 : 23, -9, lot.nextBoolean() ? 20 : 1500);
            case "pour": case "reads": return rangesOf(0, 3);
            case "copy": return rangesOf(0, 3, 0, 5, 0, 3, 0, 5, 0, 6);
            case "lay": return rangesOf(0, 4, 0, 3, 0, 3);
            case "ask": return rangesOf(0, 4, 0, 5);
            case "item": return rangesOf(0, 4, 0, 8);
            case "rest": return rangesOf(0, 4, -3, 3);
            case "tell": return rangesOf(0, 500);
            case "check": return rangesOf(1, 4);
            case "count": return rangesOf(0, 10);
            default: return new int[0][];
        }
    }

    private boolean checkDays() throws ReflectiveOperationException {
        if (model.image == null || lot.nextInt(3) == 0) {
            return both("keep");
        }
        int n = 1 + lot.nextInt(4);
        boolean right = true;
        for (int day = 1; day <= n && right; day++) {
            Model.State then = model.image.behind(day);
            right = both("tell", then.weight()) && both("tell", lot.nextInt(20) == 0 ? 77 : then.at);
        }
        return right && both("check", lot.nextInt(6) == 0 ? n + 1 : n);
    }

    private boolean tellText() throws ReflectiveOperationException {
        StringBuilder text = new StringBuilder();
        int key = lot.nextInt(3);
        blanks(text);
        text.append(new String[] {"size", "give", "fine"}[key]).append(' ');
        int deep = lot.nextInt(12) == 0 ? 9 : lot.nextInt(4);
        any(text, new String[] {"wl", "swd", "wb"}[key], deep);
        blanks(text);
        if (lot.nextInt(3) == 0) {
            spoil(text);
        }
        text.setLength(Math.min(text.length(), 96));
        byte[] bytes = text.toString().getBytes(StandardCharsets.ISO_8859_1);
        byte[] full = Arrays.copyOf(bytes, (bytes.length + 11) / 12 * 12);
        boolean right = both("trim", 0);
        for (int i = 0; i < full.length && right; i += 12) {
            right = both("feed", Due.four(full, i), Due.four(full, i + 4), Due.four(full, i + 8));
        }
        right = right && both("trim", bytes.length) && both("text");
        return right && both("ball", 1) && both("told", 0, 4) && both("fine", 0) && both("count", 9);
    }

    private void blanks(StringBuilder text) {
        while (lot.nextInt(8) == 0) {
            text.append(' ');
        }
    }

    private void any(StringBuilder text, String names, int deep) {
        if (text.length() > 110) {
            return;
        }
        blanks(text);
        int which = deep <= 0 ? lot.nextInt(2) : lot.nextInt(7);
        if (which == 0) {
            text.append(lot.nextInt(lot.nextInt(4) == 0 ? 12000 : 30));
        } else if (which == 1) {
            text.append(names.charAt(lot.nextInt(names.length())));
        } else if (which == 2) {
            text.append('!');
            any(text, names, deep - 1);
        } else if (which == 3) {
            text.append('(');
            any(text, names, deep - 1);
            text.append(')');
        } else {
            any(text, names, deep - 1);
            blanks(text);
            text.append("|&<=>+-*/+-*/".charAt(lot.nextInt(13)));
            any(text, names, deep - 1);
        }
        blanks(text);
    }

    private void spoil(StringBuilder text) {
        String signs = "()!|&<=>+-*/ wlsdb019aZ,\t" + (char) 233;
        int at = lot.nextInt(text.length());
        if (lot.nextBoolean()) {
            text.setCharAt(at, signs.charAt(lot.nextInt(signs.length())));
        } else if (lot.nextBoolean()) {
            text.deleteCharAt(at);
        } else {
            char one = signs.charAt(lot.nextInt(signs.length()));
            for (int i = lot.nextInt(10); i >= 0; i--) {
                text.insert(at, one);
            }
        }
    }
}
