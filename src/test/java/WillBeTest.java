/** Promises 18 to 23: what will be. */
public final class WillBeTest {
    public static void main(String[] args) {
        behind();
        behindTheLastDay();
        goneBy();
        ways();
        wayOrder();
        wayNeedsWeight();
        most();
        warmed();
        fines();
        Due.end();
    }

    /** All that an image keeps and calls can tell, as one text. */
    static String all(SnowOwed x) {
        StringBuilder s = new StringBuilder();
        for (int i = 0; i <= 7; i++) {
            s.append(x.count(i)).append(' ');
        }
        s.append(x.count(10)).append(' ');
        for (int i = 0; i <= 4; i++) {
            s.append(x.ball(i)).append(' ');
        }
        for (int i = 0; i < x.count(0); i++) {
            for (int what = 0; what <= 7; what++) {
                s.append(x.told(i, what)).append(' ');
            }
        }
        for (int i = 0; i < x.ball(3); i++) {
            s.append(x.layer(i, 0)).append(':').append(x.layer(i, 1)).append(' ');
        }
        for (int i = 0; i < 6; i++) {
            s.append(x.thing(i)).append(' ');
        }
        return s.toString();
    }

    private static SnowOwed dealt(int seed) {
        SnowOwed x = new SnowOwed();
        x.seed(seed);
        x.deal(6);
        x.days(4);
        x.lose(2);
        return x;
    }

    private static void behind() {
        SnowOwed x = dealt(4);
        String before = all(x);
        int[][] told = new int[101][4];
        for (int n = 0; n <= 100; n += 20) {
            for (int what = 0; what < 4; what++) {
                told[n][what] = x.behind(n, what);
            }
        }
        Due.due("behind -1", x.behind(-1, 0), Due.BAD);
        Due.due("behind 101", x.behind(101, 0), Due.BAD);
        Due.due("behind, what -1", x.behind(1, -1), Due.BAD);
        Due.due("behind, what 4", x.behind(1, 4), Due.BAD);
        Due.isTrue("only thought", before.equals(all(x)));
        for (int n = 0; n <= 100; n += 20) {
            Due.due("weight behind " + n, told[n][0], x.ball(0));
            Due.due("at behind " + n, told[n][1], x.ball(2));
            Due.due("broken behind " + n, told[n][2], x.count(5));
            Due.due("layers behind " + n, told[n][3], x.ball(3));
            x.days(20);
        }
        Due.due("without yards", new SnowOwed().behind(100, 0), 0);
    }

    private static void behindTheLastDay() {
        SnowOwed x = Due.still();
        for (int i = 0; i < 100; i++) {
            x.days(100);
        }
        x.yard(0, 999, 999);
        Due.text(x, "give d-9990");
        Due.due("the day goes on in thought: 9 + 10 + 11", x.behind(3, 0), 30);
        Due.due("but not else", x.days(3), 0);
        Due.due("no weight", x.ball(0), 0);
    }

    private static void goneBy() {
        SnowOwed x = Due.still();
        Due.due("gone without yards", x.gone(), 0);
        x.yard(5, 0, 999);
        Due.due("gone already", x.gone(), 0);
        x.pack(0, 1);
        Due.due("never gone", x.gone(), Due.NONE);
        x.turns(0, 0);
        x.rule(0, 1);
        x.seed(0);
        int z = 0;
        int days = 0;
        do {
            z = Due.drawn(z);
            days++;
        } while ((z >>> 8) % 2 == 0);
        Due.due("gone by the first one drawn", x.gone(), days);
        Due.due("z as it is", x.count(10), 0);
        for (int seed = 0; seed < 40; seed++) {
            exactly300(seed);
        }
    }

    private static void exactly300(int seed) {
        SnowOwed x = Due.still();
        x.yard(0, 0, 999);
        x.rule(0, 1);
        x.seed(seed);
        int z = seed;
        int off = 0;
        int last = 0;
        for (int day = 1; day <= 300; day++) {
            z = Due.drawn(z);
            last = (z >>> 8) % 2;
            off += last;
        }
        x.pack(0, off);
        if (last == 1) {
            Due.due("300 is the last", x.gone(), 300);
        } else {
            Due.isTrue("ahead of 300", x.gone() < 300);
        }
        x.pack(0, 1);
        Due.due("one kilo too many", x.gone(), Due.NONE);
    }

    private static void ways() {
        SnowOwed x = new SnowOwed();
        Due.due("no yards", x.way(1, 0), Due.NONE);
        Due.due("bad ahead of none", x.way(0, 0), Due.BAD);
        for (int seed = 1; seed <= 6; seed++) {
            x = dealt(seed);
            String before = all(x);
            for (int n = 1; n <= 4; n++) {
                best(x, n);
            }
            Due.isTrue("only thought", before.equals(all(x)));
        }
        best(dealt(9), 5);
        Due.due("way 6", x.way(6, 0), Due.BAD);
        Due.due("way 0", x.way(0, 0), Due.BAD);
        Due.due("way, what -1", x.way(1, -1), Due.BAD);
        Due.due("way, what 3", x.way(1, 3), Due.BAD);
    }

    /** Goes every way for real; the image brings the village back, the move too. */
    private static void best(SnowOwed x, int n) {
        int said0 = x.way(n, 0);
        int said1 = x.way(n, 1);
        int said2 = x.way(n, 2);
        x.keep();
        int ways = 1;
        for (int i = 0; i < n; i++) {
            ways *= 3;
        }
        int broken = Integer.MAX_VALUE;
        int weight = 0;
        int best = -1;
        for (int code = 0; code < ways; code++) {
            int over = ways / 3;
            for (int i = 0; i < n; i++) {
                x.rule(2, code / over % 3 - 1);
                x.days(1);
                over = Math.max(1, over / 3);
            }
            if (x.count(5) < broken || x.count(5) == broken && x.ball(0) > weight) {
                broken = x.count(5);
                weight = x.ball(0);
                best = code;
            }
            x.back();
        }
        Due.due("way's broken", said0, broken);
        Due.due("way's weight", said1, weight);
        Due.due("way's moves", said2, best);
    }

    private static void wayOrder() {
        SnowOwed x = Due.still();
        x.yard(0, 0, 999);
        Due.due("all are the same: the first", x.way(5, 2), 0);
        x.rule(2, 7);
        Due.due("in place of m", x.way(5, 0), 0);
        SnowOwed y = Due.still();
        y.yard(0, 0, 1);
        y.yard(0, 0, 999);
        y.pack(0, 90);
        y.at(1);
        // from 1: move 0 goes through the wide gate to 0, move -1 stays at 1, move 1 breaks gate 0
        Due.due("stays, stays", y.way(2, 2), 0);
        y.at(0);
        Due.due("stays at 0 too", y.way(2, 2), 0);
        Due.due("none broken", y.way(2, 0), 0);
    }

    private static void wayNeedsWeight() {
        SnowOwed x = Due.still();
        x.yard(0, 0, 999);
        x.yard(0, 0, 999);
        x.yard(0, 400, 999);
        x.yard(0, 500, 999);
        // two days: move 1 comes to yard 2, which gives 200 on the second day, whatever its move
        Due.due("greatest weight", x.way(2, 1), 200);
        Due.due("moves 1, -1", x.way(2, 2), 6);
        // three days: 1, 0 comes to yard 3, with 200 and 250; the first day first
        Due.due("greatest weight of three", x.way(3, 1), 450);
        Due.due("moves 1, 0, -1", x.way(3, 2), 21);
    }

    private static void most() {
        SnowOwed x = Due.still();
        Due.due("no layers", x.most(), Due.NONE);
        for (int i = 0; i < 4; i++) {
            x.yard(0, 0, 999);
        }
        Due.due("no layers still", x.most(), Due.NONE);
        x.pack(3, 5);
        Due.due("only 3", x.most(), 3);
        x.pack(1, 3);
        x.pack(2, 5);
        Due.due("of several the least", x.most(), 2);
        x.pack(1, 3);
        Due.due("layers together", x.most(), 1);
        x.pack(0, 7);
        Due.due("the first yard", x.most(), 0);
    }

    private static void warmed() {
        SnowOwed x = dealt(12);
        x.pack(1, 400);
        x.rule(0, 13);
        x.sheet(0, 0, 24);
        for (int k = 0; k < 24; k++) {
            x.mark(0, k, x.behind(k, 0));
        }
        x.rule(0, 2);
        String before = all(x);
        Due.due("the warm that was", x.warmed(0, 0), 13);
        Due.due("no differences", x.warmed(0, 1), 0);
        Due.isTrue("only thought", before.equals(all(x)));
        x.mark(0, 0, x.ball(0) - 3);
        x.mark(0, 1, x.behind(1, 0));
        x.sheet(1, 1, 1);
        x.mark(1, 0, x.ball(0) + 70000);
        Due.due("of several the least", x.warmed(1, 0), 0);
        Due.due("signs left out", x.warmed(1, 1), 70000);
        x.mark(1, 0, Due.NONE);
        Due.due("no number", x.warmed(1, 1), 0);
        x.sheet(2, 0, 0);
        Due.due("no places", x.warmed(2, 0), 0);
        Due.due("no places", x.warmed(2, 1), 0);
        Due.due("missing", x.warmed(3, 0), Due.NOTHING);
        Due.due("bad ahead of nothing", x.warmed(3, 2), Due.BAD);
        Due.due("sheet -1", x.warmed(-1, 0), Due.BAD);
        Due.due("sheet 4", x.warmed(4, 0), Due.BAD);
        Due.due("what -1", x.warmed(0, -1), Due.BAD);
        for (int warm = 0; warm <= 20; warm++) {
            warmedBy(warm);
        }
        SnowOwed cold = new SnowOwed();
        cold.rule(1, 0);
        cold.yard(0, 0, 999);
        cold.pack(0, 900);
        cold.sheet(0, 1, 2);
        cold.mark(0, 1, -99999);
        cold.seed(5);
        int draw = Due.drawn(5) >>> 8;
        int best = 0;
        for (int warm = 0; warm <= 20; warm++) {
            best = draw % (warm + 1) > draw % (best + 1) ? warm : best;
        }
        Due.due("the one that thaws most", cold.warmed(0, 0), best);
        Due.due("differences", cold.warmed(0, 1), 900 + 900 - draw % (best + 1) + 99999);
    }

    /** So many days are told that no other warm explains them as well. */
    private static void warmedBy(int warm) {
        SnowOwed x = new SnowOwed();
        x.rule(1, 0);
        x.yard(0, 0, 999);
        x.pack(0, 900);
        x.rule(0, warm);
        x.sheet(3, 1, 24);
        for (int k = 0; k < 24; k++) {
            x.mark(3, k, x.behind(k, 0));
        }
        x.rule(0, 50);
        Due.due("warmed by " + warm, x.warmed(3, 0), warm);
        Due.due("warmed by " + warm, x.warmed(3, 1), 0);
        x.mark(3, 23, Due.NONE);
        x.mark(3, 22, x.ball(0) + 99);
        Due.isTrue("the last places count", x.warmed(3, 1) > 0);
    }

    private static void fines() {
        SnowOwed x = Due.still();
        Due.due("no yard", x.fine(0), Due.BAD);
        x.yard(0, 0, 3);
        x.yard(0, 0, 3);
        x.pack(0, 70);
        x.days(1);
        Due.due("broken", x.fine(0), 1);
        Due.due("not broken", x.fine(1), 0);
        Due.text(x, "fine b*100-w");
        Due.due("by the text", x.fine(0), 30);
        Due.due("by the text, below 0", x.fine(1), -70);
        Due.due("yard -1", x.fine(-1), Due.BAD);
        Due.due("yard 2", x.fine(2), Due.BAD);
    }
}
