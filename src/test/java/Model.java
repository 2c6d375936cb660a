import java.util.ArrayList;
import java.util.List;

/**
 * The document once more, written as loosely as it reads and in other ways than the class (lists that
 * are copied whole, a text walked sign by sign and split where it is loosest), so that a slip in one
 * is not likely to be a slip in the other.
 */
final class Model {
    static final class Yard {
        int kind;
        int snow;
        int gate;
        int broken;

        Yard(int kind, int snow, int gate, int broken) {
            this.kind = kind;
            this.snow = snow;
            this.gate = gate;
            this.broken = broken;
        }
    }

    /** What an image keeps. */
    static final class State {
        List<Yard> yards = new ArrayList<>();
        List<int[]> layers = new ArrayList<>();
        int[] things = {Due.NONE, Due.NONE, Due.NONE, Due.NONE, Due.NONE, Due.NONE};
        List<List<String>> texts = new ArrayList<>();
        int at;
        int gone;
        int day;
        int z = 1;
        int warm = 5;
        int fall = 3;
        int move;

        State twin() {
            State s = new State();
            for (Yard y : yards) {
                s.yards.add(new Yard(y.kind, y.snow, y.gate, y.broken));
            }
            for (int[] l : layers) {
                s.layers.add(l.clone());
            }
            s.things = things.clone();
            s.texts.addAll(texts);
            s.at = at;
            s.gone = gone;
            s.day = day;
            s.z = z;
            s.warm = warm;
            s.fall = fall;
            s.move = move;
            return s;
        }

        int weight() {
            return layers.stream().mapToInt(l -> l[1]).sum();
        }

        int broken() {
            return yards.stream().mapToInt(y -> y.broken).sum();
        }

        int draw() {
            z = z * 1103515245 + 12345;
            return z >>> 8;
        }

        int why(String key) {
            for (int i = texts.size() - 1; i >= 0; i--) {
                if (texts.get(i).get(0).equals(key)) {
                    return i;
                }
            }
            return Due.NONE;
        }

        private int worked(String key, int w, int l, int s, int d, int b) {
            List<String> t = texts.get(why(key));
            return value(t.subList(1, t.size()), w, l, s, d, b);
        }

        int size() {
            if (why("size") == Due.NONE) {
                return Math.min(999, weight() / 10);
            }
            return Math.min(999, Math.max(0, worked("size", weight(), layers.size(), 0, 0, 0)));
        }

        int gives(Yard y, int kind) {
            if (kind == 5) {
                return 0;
            }
            if (kind == 4) {
                return Math.min(y.snow, 2 * gives(y, 2));
            }
            if (kind == 3) {
                return gives(y, 1);
            }
            if (kind == 2) {
                return Math.min(y.snow, gives(y, 0) + 10);
            }
            if (kind == 1) {
                return gives(y, 0) / 2;
            }
            if (why("give") == Due.NONE) {
                return y.snow / 2;
            }
            return Math.min(y.snow, Math.max(0, worked("give", weight(), 0, y.snow, day, 0)));
        }

        int fine(Yard y) {
            return why("fine") == Due.NONE ? y.broken : worked("fine", weight(), 0, 0, 0, y.broken);
        }

        int goesOn(int kind) {
            return kind == 3 ? 2 : kind == 5 && day % 2 == 0 ? 0 : 1;
        }

        void lay(int yard, int kilos) {
            int n = layers.size();
            if (n == 30 || n > 0 && layers.get(n - 1)[0] == yard) {
                layers.get(n - 1)[1] += kilos;
            } else {
                layers.add(new int[] {yard, kilos});
            }
        }

        void day() {
            if (yards.isEmpty()) {
                day++;
                return;
            }
            Yard here = yards.get(at);
            int x = draw() % (warm + 1);
            x = here.kind == 5 ? x / 2 : x;
            while (x > 0 && !layers.isEmpty()) { // a kilo at a time
                int[] outer = layers.get(layers.size() - 1);
                outer[1]--;
                x--;
                gone++;
                if (outer[1] == 0) {
                    layers.remove(layers.size() - 1);
                    for (int i = 0; i < 6; i++) {
                        things[i] = things[i] == layers.size() ? 100 + at : things[i];
                    }
                }
            }
            int given = gives(here, here.kind);
            here.snow -= given;
            if (given > 0) {
                lay(at, given);
            }
            int steps = goesOn(here.kind) + move;
            while (steps != 0) {
                int to = Math.floorMod(at + Integer.signum(steps), yards.size());
                Yard gate = yards.get(steps > 0 ? at : to);
                if (size() > gate.gate) {
                    gate.broken++;
                    gate.gate = size();
                }
                at = to;
                steps -= Integer.signum(steps);
            }
            for (Yard y : yards) {
                y.snow = Math.min(999, y.snow + fall);
            }
            day++;
        }

        State behind(int n) {
            State s = twin();
            for (int i = 0; i < n; i++) {
                s.day();
            }
            return s;
        }
    }

    static boolean under(int kind, int wanted) {
        int[] above = {-1, 0, 0, 1, 2, 0};
        return kind == wanted || above[kind] >= 0 && under(above[kind], wanted);
    }

    static int worth(int kind, Yard y) {
        switch (kind) {
            case 0: return y.snow;
            case 1: return worth(0, y) + 5;
            case 2: return 999 - y.snow;
            case 3: return 2 * worth(1, y);
            case 4: return worth(2, y) - 8;
            default: return y.gate;
        }
    }

    /** Splits at the last loosest sign outside of parentheses: what stands left of it binds first. */
    static int value(List<String> e, int w, int l, int s, int d, int b) {
        String[] signs = {"|", "&", "<=>", "+-", "*/"};
        for (String loose : signs) {
            int open = 0;
            for (int i = e.size() - 1; i > 0; i--) {
                String t = e.get(i);
                open += t.equals(")") ? 1 : t.equals("(") ? -1 : 0;
                if (open == 0 && loose.contains(t)) {
                    int left = value(e.subList(0, i), w, l, s, d, b);
                    int right = value(e.subList(i + 1, e.size()), w, l, s, d, b);
                    return joined(t, left, right);
                }
            }
        }
        String first = e.get(0);
        if (first.equals("!")) {
            return value(e.subList(1, e.size()), w, l, s, d, b) == 0 ? 1 : 0;
        }
        if (first.equals("(")) {
            return value(e.subList(1, e.size() - 1), w, l, s, d, b);
        }
        switch (first) {
            case "w": return w;
            case "l": return l;
            case "s": return s;
            case "d": return d;
            case "b": return b;
            default: return Integer.parseInt(first);
        }
    }

    private static int joined(String sign, int a, int b) {
        boolean holds;
        switch (sign) {
            case "+": return a + b;
            case "-": return a - b;
            case "*": return a * b;
            case "/": return b == 0 ? 0 : a / b;
            case "|": holds = a != 0 | b != 0; break;
            case "&": holds = a != 0 & b != 0; break;
            case "<": holds = a < b; break;
            case "=": holds = a == b; break;
            default: holds = a > b; break;
        }
        return holds ? 1 : 0;
    }

    /** Walks the tape sign by sign; puts the words and signs into out; the place of the fault, or -1. */
    static int fault(List<Integer> tape, List<String> out) {
        List<Integer> bangsAt = new ArrayList<>(); // for every ( that is open, the ! open ahead of it
        List<Boolean> compared = new ArrayList<>(List.of(false));
        int bangs = 0;
        boolean operand = true;
        int i = 0;
        while (i < tape.size()) {
            int c = tape.get(i);
            if (c == 32) {
                i++;
                continue;
            }
            int start = i;
            StringBuilder word = new StringBuilder().append((char) c);
            i++;
            if (letter(c) || digit(c)) {
                while (i < tape.size() && (letter(c) ? letter(tape.get(i)) : digit(tape.get(i)))) {
                    word.append((char) (int) tape.get(i));
                    i++;
                }
                int before = start > 0 ? tape.get(start - 1) : 32;
                if (letter(before) || digit(before)) {
                    return start;
                }
            }
            String t = word.toString();
            int last = compared.size() - 1;
            if (out.isEmpty()) {
                if (!t.equals("size") && !t.equals("give") && !t.equals("fine")) {
                    return start;
                }
            } else if (operand) {
                String names = out.get(0).equals("size") ? "wl" : out.get(0).equals("give") ? "swd" : "wb";
                if (t.equals("!") && bangs < 8) {
                    bangs++;
                } else if (t.equals("(") && last < 8) {
                    bangsAt.add(bangs);
                    compared.add(false);
                } else if (digit(c) && t.length() <= 4 || letter(c) && t.length() == 1 && names.contains(t)) {
                    operand = false;
                    bangs = bangsAt.isEmpty() ? 0 : bangsAt.get(bangsAt.size() - 1);
                } else {
                    return start;
                }
            } else if (t.equals(")") && last > 0) {
                compared.remove(last);
                bangsAt.remove(bangsAt.size() - 1);
                bangs = bangsAt.isEmpty() ? 0 : bangsAt.get(bangsAt.size() - 1);
            } else if ("<=>".contains(t) && !compared.get(last)) {
                compared.set(last, true);
                operand = true;
            } else if ("|&".contains(t)) {
                compared.set(last, false);
                operand = true;
            } else if ("+-*/".contains(t)) {
                operand = true;
            } else {
                return start;
            }
            out.add(t);
        }
        return operand || compared.size() > 1 ? tape.size() : -1;
    }

    private static boolean letter(int c) {
        return c >= 'a' && c <= 'z';
    }

    private static boolean digit(int c) {
        return c >= '0' && c <= '9';
    }

    State now = new State();
    State image;
    final List<Integer> tape = new ArrayList<>();
    final List<Integer> waiting = new ArrayList<>();
    final Integer[][] sheets = new Integer[4][]; // a null place is NO NUMBER
    final int[] sorts = {-1, -1, -1, -1};
    final Object[] slots = new Object[5];

    private boolean in(int v, int least, int most) {
        return v >= least && v <= most;
    }

    private boolean yardThere(int y) {
        return in(y, 0, now.yards.size() - 1);
    }

    private int snowOfAll() {
        return now.yards.stream().mapToInt(y -> y.snow).sum();
    }

    private int led(int yard) {
        return now.layers.stream().filter(l -> l[0] == yard).mapToInt(l -> l[1]).sum();
    }

    /** The call by its name, with its arguments. */
    int call(String name, int... a) {
        switch (name) {
            case "yard": case "told": case "as": case "turns": case "set": case "deal": case "seed":
                return yards(name, a);
            case "rule": case "at": case "ball": case "layer": case "pack": case "lose": case "find": case "thing": case "days":
                return ball(name, a);
            case "behind": case "gone": case "way": case "most": case "warmed": case "fine":
                return willBe(name, a);
            case "feed": case "trim": case "text": case "textTold": case "why":
                return texts(name, a);
            case "sheet": case "mark": case "pour": case "reads": case "copy":
                return sheets(name, a);
            case "lay": case "ask": case "item": case "rest":
                return slots(name, a);
            default:
                return rows(name, a);
        }
    }

    private int yards(String name, int[] a) {
        if (name.equals("yard")) {
            if (!in(a[0], 0, 5) || !in(a[1], 0, 999) || !in(a[2], 1, 999)) {
                return Due.BAD;
            }
            if (now.yards.size() == 10) {
                return Due.FULL;
            }
            now.yards.add(new Yard(a[0], a[1], a[2], 0));
            return now.yards.size() - 1;
        }
        if (name.equals("deal")) {
            if (!in(a[0], 1, 10)) {
                return Due.BAD;
            }
            int came = 0;
            while (came < a[0] && now.yards.size() < 10) {
                int kind = now.draw() % 6;
                int snow = now.draw() % 200;
                now.yards.add(new Yard(kind, snow, 1 + now.draw() % 100, 0));
                came++;
            }
            return came;
        }
        if (name.equals("seed")) {
            int was = now.z;
            now.z = a[0];
            return was;
        }
        if (!yardThere(a[0])) {
            return Due.BAD;
        }
        Yard y = now.yards.get(a[0]);
        if (name.equals("told")) {
            int[] all = {y.kind, y.snow, y.gate, y.broken, now.gives(y, y.kind), now.goesOn(y.kind), worth(y.kind, y), led(a[0])};
            return in(a[1], 0, 7) ? all[a[1]] : Due.BAD;
        }
        if (name.equals("set")) {
            if (a[1] == 1 && in(a[2], 0, 999)) {
                int was = y.snow;
                y.snow = a[2];
                return was;
            }
            if (a[1] == 2 && in(a[2], 1, 999)) {
                int was = y.gate;
                y.gate = a[2];
                return was;
            }
            return Due.BAD;
        }
        if (!in(a[1], 0, 5)) {
            return Due.BAD;
        }
        if (name.equals("as")) {
            return under(y.kind, a[1]) ? y.snow : Due.KIND;
        }
        int was = y.kind;
        y.kind = a[1];
        return was;
    }

    private int ball(String name, int[] a) {
        int n = now.layers.size();
        int was;
        switch (name) {
            case "rule":
                if (!in(a[0], 0, 2) || !(a[0] == 2 ? in(a[1], -9, 9) : in(a[1], 0, 99))) {
                    return Due.BAD;
                }
                was = new int[] {now.warm, now.fall, now.move}[a[0]];
                now.warm = a[0] == 0 ? a[1] : now.warm;
                now.fall = a[0] == 1 ? a[1] : now.fall;
                now.move = a[0] == 2 ? a[1] : now.move;
                return was;
            case "at":
                was = now.at;
                now.at = yardThere(a[0]) ? a[0] : was;
                return yardThere(a[0]) ? was : Due.BAD;
            case "ball":
                return in(a[0], 0, 4) ? new int[] {now.weight(), now.size(), now.at, n, now.gone}[a[0]] : Due.BAD;
            case "layer":
                return in(a[0], 0, n - 1) && in(a[1], 0, 1) ? now.layers.get(a[0])[a[1]] : Due.BAD;
            case "pack":
                if (!yardThere(a[0]) || !in(a[1], 1, 999)) {
                    return Due.BAD;
                }
                now.lay(a[0], a[1]);
                return now.weight();
            case "days":
                if (!in(a[0], 1, 100)) {
                    return Due.BAD;
                }
                was = now.broken();
                for (int i = 0; i < a[0] && now.day < 9999; i++) {
                    now.day();
                }
                return now.broken() - was;
            default:
                return things(name, a[0]);
        }
    }

    private int things(String name, int thing) {
        if (!in(thing, 0, 5)) {
            return Due.BAD;
        }
        int was = now.things[thing];
        if (name.equals("lose")) {
            if (now.layers.isEmpty()) {
                return Due.NO;
            }
            now.things[thing] = now.layers.size() - 1;
            return now.things[thing];
        }
        if (name.equals("find")) {
            now.things[thing] = Due.NONE;
            return was == Due.NONE ? 0 : 1;
        }
        return was;
    }

    private int willBe(String name, int[] a) {
        switch (name) {
            case "behind":
                if (!in(a[0], 0, 100) || !in(a[1], 0, 3)) {
                    return Due.BAD;
                }
                State then = now.behind(a[0]);
                return new int[] {then.weight(), then.at, then.broken(), then.layers.size()}[a[1]];
            case "gone":
                State s = now.twin();
                for (int day = 0; day <= 300; day++) {
                    if (s.weight() == 0) {
                        return day;
                    }
                    s.day();
                }
                return Due.NONE;
            case "way":
                return way(a[0], a[1]);
            case "most":
                if (now.layers.isEmpty()) {
                    return Due.NONE;
                }
                int most = -1;
                for (int y = now.yards.size() - 1; y >= 0; y--) {
                    most = most < 0 || led(y) >= led(most) ? y : most;
                }
                return most;
            case "warmed":
                return warmed(a[0], a[1]);
            default:
                return yardThere(a[0]) ? now.fine(now.yards.get(a[0])) : Due.BAD;
        }
    }

    private int way(int n, int what) {
        if (!in(n, 1, 5) || !in(what, 0, 2)) {
            return Due.BAD;
        }
        if (now.yards.isEmpty()) {
            return Due.NONE;
        }
        int[] best = null;
        int ways = (int) Math.round(Math.pow(3, n));
        for (int code = ways - 1; code >= 0; code--) {
            State s = now.twin();
            for (int i = n - 1; i >= 0; i--) {
                s.move = code / (int) Math.round(Math.pow(3, i)) % 3 - 1;
                s.day();
            }
            boolean better = best == null || s.broken() < best[0] || s.broken() == best[0] && s.weight() >= best[1];
            best = better ? new int[] {s.broken(), s.weight(), code} : best;
        }
        return best[what];
    }

    private int warmed(int sheet, int what) {
        if (!in(sheet, 0, 3) || !in(what, 0, 1)) {
            return Due.BAD;
        }
        if (sheets[sheet] == null) {
            return Due.NOTHING;
        }
        int best = -1;
        int least = 0;
        for (int warm = 20; warm >= 0; warm--) {
            State s = now.twin();
            s.warm = warm;
            int sum = 0;
            for (Integer v : sheets[sheet]) {
                sum += v == null ? 0 : Math.abs(s.weight() - v);
                s.day();
            }
            if (best < 0 || sum <= least) {
                best = warm;
                least = sum;
            }
        }
        return what == 0 ? best : least;
    }

    private int texts(String name, int[] a) {
        switch (name) {
            case "feed":
                if (tape.size() + 12 > 96) {
                    return Due.FULL;
                }
                for (int v : a) {
                    for (int i = 0; i < 4; i++) {
                        tape.add(v >> 8 * (3 - i) & 255);
                    }
                }
                return tape.size();
            case "trim":
                if (!in(a[0], 0, tape.size())) {
                    return Due.BAD;
                }
                tape.subList(a[0], tape.size()).clear();
                return a[0];
            case "text":
                List<String> words = new ArrayList<>();
                int fault = fault(tape, words);
                tape.clear();
                if (fault >= 0) {
                    return -100 - fault;
                }
                if (now.texts.size() == 14) {
                    return Due.FULL;
                }
                now.texts.add(words);
                return now.texts.size() - 1;
            case "textTold":
                if (!in(a[0], 0, now.texts.size() - 1) || !in(a[1], 0, 1)) {
                    return Due.BAD;
                }
                List<String> t = now.texts.get(a[0]);
                return a[1] == 0 ? List.of("size", "give", "fine").indexOf(t.get(0))
                    : (int) t.stream().skip(1).filter(w -> Character.isLetterOrDigit(w.charAt(0))).count();
            default:
                return in(a[0], 0, 2) ? now.why(List.of("size", "give", "fine").get(a[0])) : Due.BAD;
        }
    }

    private int sheets(String name, int[] a) {
        if (!in(a[0], 0, 3) || name.equals("copy") && !in(a[2], 0, 3)) {
            return Due.BAD;
        }
        if (name.equals("sheet")) {
            return sheet(a[0], a[1], a[2]);
        }
        Integer[] row = sheets[a[0]];
        if (row == null || name.equals("copy") && sheets[a[2]] == null) {
            return Due.NOTHING;
        }
        switch (name) {
            case "mark":
                if (!in(a[1], 0, row.length - 1)) {
                    return Due.INDEX;
                }
                if (sorts[a[0]] == 0 && a[2] == Due.NONE) {
                    return Due.KIND;
                }
                if (sorts[a[0]] == 1 && a[2] != Due.NONE && !in(a[2], -99999, 99999)) {
                    return Due.BAD;
                }
                row[a[1]] = sorts[a[0]] == 0 ? Integer.valueOf((short) a[2]) : a[2] == Due.NONE ? null : Integer.valueOf(a[2]);
                return 1;
            case "pour":
                int otherwise = 0;
                for (int i = 0; i < now.yards.size(); i++) {
                    Yard y = now.yards.get(i);
                    int was = y.snow;
                    y.snow = i < row.length && row[i] != null ? Math.max(0, Math.min(999, row[i])) : was;
                    otherwise += y.snow != was ? 1 : 0;
                }
                return otherwise;
            case "reads":
                for (int i = 0; i < row.length; i++) {
                    if (row[i] != null && (i >= now.layers.size() || now.layers.get(i)[1] != row[i])) {
                        return i;
                    }
                }
                return Due.NONE;
            default:
                return copy(row, sheets[a[2]], sorts[a[0]] == sorts[a[2]], a);
        }
    }

    private int sheet(int sheet, int sort, int n) {
        if (!in(sort, -1, 1) || sort >= 0 && n > 24) {
            return Due.BAD;
        }
        if (sort >= 0 && n < 0) {
            return Due.SIZE;
        }
        sorts[sheet] = sort;
        sheets[sheet] = sort < 0 ? null : new Integer[n];
        for (int i = 0; sort >= 0 && i < n; i++) {
            sheets[sheet][i] = 0;
        }
        return sort < 0 ? 0 : n;
    }

    private int copy(Integer[] from, Integer[] to, boolean oneSort, int[] a) {
        if (!oneSort) {
            return Due.KIND;
        }
        long fromEnd = (long) a[1] + a[4];
        long toEnd = (long) a[3] + a[4];
        if (a[1] < 0 || a[3] < 0 || a[4] < 0 || fromEnd > from.length || toEnd > to.length) {
            return Due.INDEX;
        }
        Integer[] were = from.clone();
        for (int i = 0; i < a[4]; i++) {
            to[a[3] + i] = were[a[1] + i];
        }
        return a[4];
    }

    private int slots(String name, int[] a) {
        if (!in(a[0], 0, 4)) {
            return Due.BAD;
        }
        Object held = slots[a[0]];
        if (name.equals("lay")) {
            if (!in(a[1], 0, 3) || a[1] == 1 && !yardThere(a[2]) || a[1] == 2 && !in(a[2], 0, 3)) {
                return Due.BAD;
            }
            if (a[1] == 2 && sheets[a[2]] == null) {
                return Due.NOTHING;
            }
            Object[] next = {null, null, null, a[2]};
            if (a[1] == 1) {
                Yard y = now.yards.get(a[2]);
                next[1] = new Yard(y.kind, y.snow, y.gate, y.broken);
            } else if (a[1] == 2) {
                next[2] = sheets[a[2]].clone();
            }
            slots[a[0]] = next[a[1]];
            return held == null ? 0 : held instanceof Yard ? 1 : held instanceof Integer[] ? 2 : 3;
        }
        if (name.equals("ask") && !in(a[1], 0, 5)) {
            return Due.BAD;
        }
        if (held == null) {
            return Due.NOTHING;
        }
        if (name.equals("ask")) {
            return held instanceof Yard && under(((Yard) held).kind, a[1]) ? worth(((Yard) held).kind, (Yard) held) : Due.KIND;
        }
        if (name.equals("rest")) {
            return !(held instanceof Integer) ? Due.KIND : a[1] == 0 ? Due.NO : (int) ((long) (Integer) held % a[1]);
        }
        if (!(held instanceof Integer[])) {
            return Due.KIND;
        }
        Integer[] row = (Integer[]) held;
        return !in(a[1], 0, row.length - 1) ? Due.INDEX : row[a[1]] == null ? Due.KIND : row[a[1]];
    }

    private int rows(String name, int[] a) {
        switch (name) {
            case "tell":
                if (waiting.size() == 60) {
                    return Due.FULL;
                }
                waiting.add(a[0]);
                return waiting.size();
            case "check":
                List<Integer> were = new ArrayList<>(waiting);
                waiting.clear();
                return !in(a[0], 1, 30) ? Due.BAD : image == null ? Due.NO : checked(were, a[0]);
            case "keep":
                image = now.twin();
                return now.yards.size();
            case "back":
                now = image == null ? now : image.twin();
                return image == null ? Due.NO : now.yards.size();
            default:
                int[] all = {now.yards.size(), now.day, now.warm, now.fall, now.move, now.broken(), snowOfAll(),
                    now.texts.size(), waiting.size(), tape.size(), now.z};
                return in(a[0], 0, 10) ? all[a[0]] : Due.BAD;
        }
    }

    private int checked(List<Integer> were, int n) {
        List<Integer> due = new ArrayList<>();
        State s = image.twin();
        for (int i = 0; i < n && s.day < 9999; i++) {
            s.day();
            due.add(s.weight());
            due.add(s.at);
        }
        for (int i = 0; i < Math.max(due.size(), were.size()); i++) {
            if (i >= due.size() || i >= were.size() || !due.get(i).equals(were.get(i))) {
                return 1 + i;
            }
        }
        return 0;
    }
}
