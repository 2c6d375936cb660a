/** Promises 29 to 37: sheets and slots. */
public final class SheetsTest {
    public static void main(String[] args) {
        sheets();
        marks();
        pours();
        readings();
        copies();
        layings();
        asking();
        items();
        rests();
        Due.end();
    }

    private static void sheets() {
        SnowOwed x = new SnowOwed();
        Due.due("sheet -1", x.sheet(-1, 0, 1), Due.BAD);
        Due.due("sheet 4", x.sheet(4, 0, 1), Due.BAD);
        Due.due("sort -2", x.sheet(0, -2, 1), Due.BAD);
        Due.due("sort 2", x.sheet(0, 2, 1), Due.BAD);
        Due.due("25 places", x.sheet(0, 1, 25), Due.BAD);
        Due.due("-1 places", x.sheet(0, 1, -1), Due.SIZE);
        Due.due("bad ahead of size", x.sheet(4, 1, -1), Due.BAD);
        Due.due("bad sort ahead of size", x.sheet(0, 2, -1), Due.BAD);
        Due.due("still missing", x.mark(0, 0, 0), Due.NOTHING);
        Due.due("24 places", x.sheet(0, 1, 24), 24);
        Due.due("no places", x.sheet(3, 0, 0), 0);
        Due.due("place 23", x.mark(0, 23, 5), 1);
        Due.due("place 0", x.mark(0, 0, 5), 1);
        Due.due("no place 0", x.mark(3, 0, 5), Due.INDEX);
        x.lay(0, 2, 0);
        Due.due("item", x.item(0, 23), 5);
        x.sheet(0, 1, 24);
        x.lay(0, 2, 0);
        Due.due("all 0 again", x.item(0, 23), 0);
        Due.due("the first too", x.item(0, 0), 0);
        Due.due("refused, so it stays", x.sheet(0, 0, -1), Due.SIZE);
        Due.due("a place is there", x.mark(0, 23, 5), 1);
        Due.due("missing, n any", x.sheet(0, -1, 77), 0);
        Due.due("missing again, n below 0", x.sheet(0, -1, -77), 0);
        Due.due("missing", x.mark(0, 0, 0), Due.NOTHING);
    }

    private static int marked(int sort, int v) {
        SnowOwed x = new SnowOwed();
        x.sheet(1, sort, 1);
        Due.due("mark " + v, x.mark(1, 0, v), 1);
        x.lay(0, 2, 1);
        return x.item(0, 0);
    }

    private static void marks() {
        Due.due("short 32767", marked(0, 32767), 32767);
        Due.due("short 32768", marked(0, 32768), -32768);
        Due.due("short 65536", marked(0, 65536), 0);
        Due.due("short -1", marked(0, -1), -1);
        Due.due("short -32769", marked(0, -32769), 32767);
        Due.due("short, least", marked(0, Integer.MIN_VALUE), 0);
        Due.due("float 99999", marked(1, 99999), 99999);
        Due.due("float -99999", marked(1, -99999), -99999);
        Due.due("float, no number", marked(1, Due.NONE), Due.KIND);
        SnowOwed x = new SnowOwed();
        x.sheet(0, 0, 2);
        x.sheet(1, 1, 2);
        Due.due("sheet -1", x.mark(-1, 0, 0), Due.BAD);
        Due.due("sheet 4", x.mark(4, 0, 0), Due.BAD);
        Due.due("missing", x.mark(2, -1, 0), Due.NOTHING);
        Due.due("place -1", x.mark(0, -1, Due.NONE), Due.INDEX);
        Due.due("place 2", x.mark(1, 2, 100000), Due.INDEX);
        Due.due("none of shorts", x.mark(0, 0, Due.NONE), Due.KIND);
        Due.due("float 100000", x.mark(1, 0, 100000), Due.BAD);
        Due.due("float -100000", x.mark(1, 0, -100000), Due.BAD);
    }

    private static void pours() {
        SnowOwed x = new SnowOwed();
        Due.due("sheet -1", x.pour(-1), Due.BAD);
        Due.due("sheet 4", x.pour(4), Due.BAD);
        Due.due("missing", x.pour(0), Due.NOTHING);
        x.sheet(0, 1, 5);
        Due.due("no yards", x.pour(0), 0);
        for (int i = 0; i < 6; i++) {
            x.yard(0, 10 * i, 1);
        }
        int[] v = {99999, -99999, Due.NONE, 30, 999};
        for (int i = 0; i < 5; i++) {
            x.mark(0, i, v[i]);
        }
        Due.due("otherwise", x.pour(0), 3);
        int[] due = {999, 0, 20, 30, 999, 50};
        for (int i = 0; i < 6; i++) {
            Due.due("snow " + i, x.told(i, 1), due[i]);
        }
        Due.due("no more otherwise", x.pour(0), 0);
        x.sheet(1, 0, 24);
        Due.due("more places than yards", x.pour(1), 5);
        SnowOwed ten = new SnowOwed();
        for (int i = 0; i < 10; i++) {
            ten.yard(0, 1 + i, 1);
        }
        ten.sheet(0, 0, 24);
        Due.due("ten yards", ten.pour(0), 10);
    }

    private static void readings() {
        SnowOwed x = new SnowOwed();
        Due.due("sheet -1", x.reads(-1), Due.BAD);
        Due.due("sheet 4", x.reads(4), Due.BAD);
        Due.due("missing", x.reads(0), Due.NOTHING);
        x.sheet(0, 0, 0);
        Due.due("no places", x.reads(0), Due.NONE);
        x.yard(0, 0, 1);
        x.yard(0, 0, 1);
        x.pack(0, 6);
        x.pack(1, 7);
        Due.due("no places, layers", x.reads(0), Due.NONE);
        x.sheet(0, 1, 3);
        x.mark(0, 0, 6);
        x.mark(0, 1, 7);
        Due.due("no such layer", x.reads(0), 2);
        x.mark(0, 2, Due.NONE);
        Due.due("numbers alone", x.reads(0), Due.NONE);
        x.mark(0, 1, 8);
        Due.due("not those kilos", x.reads(0), 1);
        x.mark(0, 0, 7);
        Due.due("the first place", x.reads(0), 0);
        x.mark(0, 0, Due.NONE);
        Due.due("the first of numbers", x.reads(0), 1);
    }

    private static String rowOf(SnowOwed x, int sheet, int n) {
        x.lay(4, 2, sheet);
        StringBuilder s = new StringBuilder();
        for (int i = 0; i < n; i++) {
            int v = x.item(4, i);
            s.append(v == Due.KIND ? "-" : Integer.toString(v)).append(' ');
        }
        return s.toString();
    }

    private static SnowOwed rows() {
        SnowOwed x = new SnowOwed();
        x.sheet(0, 1, 5);
        x.sheet(1, 1, 3);
        x.sheet(2, 0, 3);
        for (int i = 0; i < 5; i++) {
            x.mark(0, i, i == 2 ? Due.NONE : i + 1);
        }
        return x;
    }

    private static void copies() {
        SnowOwed x = rows();
        Due.due("to another", x.copy(0, 1, 1, 0, 3), 3);
        Due.isTrue("as they were", rowOf(x, 1, 3).equals("2 - 4 "));
        Due.due("on itself, forwards", x.copy(0, 0, 0, 1, 4), 4);
        Due.isTrue("as they were, forwards", rowOf(x, 0, 5).equals("1 1 2 - 4 "));
        x = rows();
        Due.due("on itself, backwards", x.copy(0, 1, 0, 0, 4), 4);
        Due.isTrue("as they were, backwards", rowOf(x, 0, 5).equals("2 - 4 5 5 "));
        Due.due("none, at the ends", x.copy(0, 5, 1, 3, 0), 0);
        Due.due("from -1", x.copy(-1, 0, 0, 0, 1), Due.BAD);
        Due.due("from 4", x.copy(4, 0, 0, 0, 1), Due.BAD);
        Due.due("to -1", x.copy(0, 0, -1, 0, 1), Due.BAD);
        Due.due("to 4", x.copy(3, 0, 4, 0, 1), Due.BAD);
        Due.due("from a missing one", x.copy(3, 0, 0, 0, 1), Due.NOTHING);
        Due.due("to a missing one", x.copy(0, 99, 3, 0, 1), Due.NOTHING);
        Due.due("of two sorts", x.copy(0, 99, 2, 0, 1), Due.KIND);
        int[][] wrong = {{-1, 0, 1}, {0, -1, 1}, {0, 0, -1}, {6, 0, 0}, {0, 4, 0}, {3, 0, 3}, {0, 1, 3}, {0, 0, 4},
            {Integer.MAX_VALUE, 0, 1}, {1, 0, Integer.MAX_VALUE}, {0, Integer.MAX_VALUE, 2}, {Integer.MIN_VALUE, 0, 1},
            {0, 0, Integer.MIN_VALUE}, {5, 0, 1}};
        for (int[] w : wrong) {
            Due.due("copy(0, " + w[0] + ", 1, " + w[1] + ", " + w[2] + ")", x.copy(0, w[0], 1, w[1], w[2]), Due.INDEX);
        }
        Due.isTrue("nothing changed", rowOf(x, 1, 3).equals("0 0 0 "));
    }

    private static void layings() {
        SnowOwed x = rows();
        Due.due("slot -1", x.lay(-1, 0, 0), Due.BAD);
        Due.due("slot 5", x.lay(5, 0, 0), Due.BAD);
        Due.due("thing -1", x.lay(0, -1, 0), Due.BAD);
        Due.due("thing 4", x.lay(0, 4, 0), Due.BAD);
        Due.due("no yard", x.lay(0, 1, 0), Due.BAD);
        x.yard(0, 9, 1);
        Due.due("yard -1", x.lay(0, 1, -1), Due.BAD);
        Due.due("yard 1", x.lay(0, 1, 1), Due.BAD);
        Due.due("sheet -1", x.lay(0, 2, -1), Due.BAD);
        Due.due("sheet 4", x.lay(0, 2, 4), Due.BAD);
        Due.due("missing sheet", x.lay(0, 2, 3), Due.NOTHING);
        Due.due("nothing, k any", x.lay(0, 0, 99), 0);
        Due.due("number", x.lay(0, 3, Integer.MIN_VALUE), 0);
        Due.due("sheet", x.lay(0, 2, 0), 3);
        Due.due("refused: it stays", x.lay(0, 2, 3), Due.NOTHING);
        Due.due("yard", x.lay(0, 1, 0), 2);
        Due.due("refused: it stays", x.lay(0, 1, 7), Due.BAD);
        Due.due("nothing", x.lay(0, 0, -5), 1);
        Due.due("nothing again", x.lay(0, 0, 0), 0);
    }

    private static void asking() {
        SnowOwed x = new SnowOwed();
        x.yard(4, 100, 9);
        x.yard(5, 100, 9);
        x.lay(0, 1, 0);
        x.lay(1, 1, 1);
        x.lay(2, 3, 8);
        x.set(0, 1, 500);
        x.set(1, 2, 77);
        x.turns(0, 0);
        Due.due("vain, as it was", x.ask(0, 4), 891);
        Due.due("taken for proud", x.ask(0, 2), 891);
        Due.due("taken for yard", x.ask(0, 0), 891);
        Due.due("no slope", x.ask(0, 1), Due.KIND);
        Due.due("straw, as it was", x.ask(1, 0), 9);
        Due.due("no vain", x.ask(1, 4), Due.KIND);
        Due.due("no yard", x.ask(2, 0), Due.KIND);
        Due.due("nothing", x.ask(3, 0), Due.NOTHING);
        Due.due("bad kind ahead of nothing", x.ask(3, 6), Due.BAD);
        Due.due("kind -1", x.ask(0, -1), Due.BAD);
        Due.due("slot -1", x.ask(-1, 0), Due.BAD);
        Due.due("slot 5", x.ask(5, 0), Due.BAD);
        x.lay(4, 1, 0);
        Due.due("yard, as it is now", x.ask(4, 0), 500);
        Due.due("no proud any more", x.ask(4, 2), Due.KIND);
    }

    private static void items() {
        SnowOwed x = rows();
        x.yard(0, 1, 1);
        x.lay(0, 2, 0);
        x.lay(1, 1, 0);
        x.lay(2, 3, 0);
        x.mark(0, 0, 77);
        Due.due("as it was", x.item(0, 0), 1);
        x.sheet(0, -1, 0);
        Due.due("though it is missing", x.item(0, 4), 5);
        Due.due("no number", x.item(0, 2), Due.KIND);
        Due.due("place -1", x.item(0, -1), Due.INDEX);
        Due.due("place 5", x.item(0, 5), Due.INDEX);
        Due.due("a yard", x.item(1, 9), Due.KIND);
        Due.due("a number", x.item(2, 0), Due.KIND);
        Due.due("nothing", x.item(3, 0), Due.NOTHING);
        Due.due("slot -1", x.item(-1, 0), Due.BAD);
        Due.due("slot 5", x.item(5, 0), Due.BAD);
    }

    private static void rests() {
        SnowOwed x = rows();
        x.lay(0, 3, -11);
        x.lay(1, 2, 0);
        x.lay(2, 3, Integer.MIN_VALUE);
        Due.due("-11 by 4", x.rest(0, 4), -3);
        Due.due("-11 by -4", x.rest(0, -4), -3);
        Due.due("by 0", x.rest(0, 0), Due.NO);
        Due.due("least by -1", x.rest(2, -1), 0);
        Due.due("a sheet, ahead of no", x.rest(1, 0), Due.KIND);
        Due.due("nothing, ahead of no", x.rest(3, 0), Due.NOTHING);
        Due.due("slot -1", x.rest(-1, 0), Due.BAD);
        Due.due("slot 5", x.rest(5, 1), Due.BAD);
    }
}
