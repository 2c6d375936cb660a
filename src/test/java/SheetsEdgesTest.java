/** Promises 29 to 37 and what the fifth part of the terms says of them, at their edges, sentence by sentence. */
public final class SheetsEdgesTest {
    private static final int[] NO_SHEETS = {Due.LEAST, -1, 4, Due.MOST};
    private static final int[] NO_SLOTS = {Due.LEAST, -1, 5, Due.MOST};

    public static void main(String[] args) {
        fourSheets();
        noNumber();
        fiveSlots();
        findings();
        sheets();
        marksOfShorts();
        marksOfFloats();
        refusedMarks();
        pours();
        reads();
        copies();
        refusedCopies();
        lays();
        asks();
        items();
        rests();
        Due.end();
    }

    private static int placeOf(SnowOwed x, int sheet, int place) {
        x.lay(4, 2, sheet);
        return x.item(4, place);
    }

    private static void fourSheets() {
        Due.says(0, "SHEETS 0 .. 3 are rows of shorts (sort 0) or floats (1; whole numbers), with 0 to 24 places, or MISSING (at first)");
        SnowOwed x = new SnowOwed();
        for (int sheet = 0; sheet <= 3; sheet++) {
            Due.due("missing at first", x.reads(sheet), Due.NOTHING);
        }
        for (int sheet = 0; sheet <= 3; sheet++) {
            Due.due("24 places", x.sheet(sheet, sheet % 2, 24), 24);
            Due.due("the last", x.mark(sheet, 23, 1), 1);
            Due.due("none behind it", x.mark(sheet, 24, 1), Due.INDEX);
        }
        for (int sheet = 0; sheet <= 3; sheet++) {
            Due.due("0 places", x.sheet(sheet, sheet % 2, 0), 0);
            Due.due("it is not missing", x.reads(sheet), Due.NONE);
            Due.due("no place", x.mark(sheet, 0, 1), Due.INDEX);
        }
        for (int sheet : NO_SHEETS) {
            Due.due("sheet " + sheet, x.sheet(sheet, 0, 1), Due.BAD);
        }
    }

    private static void noNumber() {
        Due.says(0, "A place of floats may be NO NUMBER");
        SnowOwed x = new SnowOwed();
        x.sheet(0, 1, 1);
        Due.due("a number at first", placeOf(x, 0, 0), 0);
        x.mark(0, 0, Due.NONE);
        Due.due("no number", placeOf(x, 0, 0), Due.KIND);
        x.mark(0, 0, 3);
        Due.due("a number again", placeOf(x, 0, 0), 3);
    }

    private static void fiveSlots() {
        Due.says(0, "SLOTS 0 .. 4 each hold nothing (at first), a YARD (as it is then, for good), a SHEET (a row of its own, as it was then), or a number");
        SnowOwed x = new SnowOwed();
        for (int slot = 0; slot <= 4; slot++) {
            Due.due("nothing at first", x.lay(slot, 0, 0), 0);
        }
        x.yard(1, 30, 4);
        x.keep();
        x.sheet(0, 1, 2);
        x.mark(0, 0, 8);
        x.lay(0, 1, 0);
        x.lay(1, 2, 0);
        x.set(0, 1, 99);
        x.turns(0, 5);
        x.mark(0, 0, 9);
        Due.due("the yard as it was", x.ask(0, 1), 35);
        Due.due("the row as it was", x.item(1, 0), 8);
        x.sheet(0, -1, 0);
        x.back();
        Due.due("the yard for good", x.ask(0, 1), 35);
        Due.due("a row of its own", x.item(1, 0), 8);
        x.sheet(0, 0, 1);
        Due.due("with as many places as it had", x.item(1, 1), 0);
        SnowOwed none = new SnowOwed();
        none.keep();
        none.yard(5, 1, 77);
        none.lay(4, 1, 0);
        none.back();
        Due.due("though the yard is no more", none.ask(4, 5), 77);
        for (int slot : NO_SLOTS) {
            Due.due("slot " + slot, x.lay(slot, 0, 0), Due.BAD);
        }
    }

    private static void findings() {
        Due.says(0, "FINDINGS: NOTHING: a SHEET is MISSING, a SLOT holds nothing; INDEX: there is no such place; SIZE: a number of places is below 0; KIND: it is none (of a KIND, a number, or another thing)");
        SnowOwed x = new SnowOwed();
        Due.due("a sheet is missing", x.pour(0), Due.NOTHING);
        Due.due("a slot holds nothing", x.item(0, 0), Due.NOTHING);
        x.sheet(0, 1, 1);
        Due.due("no such place", x.mark(0, 1, 0), Due.INDEX);
        Due.due("nor below", x.mark(0, -1, 0), Due.INDEX);
        Due.due("places below 0", x.sheet(1, 0, -1), Due.SIZE);
        x.yard(0, 1, 1);
        Due.due("none of a kind", x.as(0, 1), Due.KIND);
        x.mark(0, 0, Due.NONE);
        x.lay(0, 2, 0);
        Due.due("no number", x.item(0, 0), Due.KIND);
        Due.due("another thing", x.rest(0, 1), Due.KIND);
    }

    private static void sheets() {
        Due.says(29, "A SHEET becomes a row of n places of a sort, all 0 (sort -1: MISSING, n any): n (0)");
        SnowOwed x = new SnowOwed();
        x.sheet(0, 1, 24);
        for (int place = 0; place < 24; place++) {
            x.mark(0, place, place % 2 == 0 ? Due.NONE : 5);
        }
        for (int sort = 0; sort <= 1; sort++) {
            Due.due("again", x.sheet(0, sort, 24), 24);
            x.lay(0, 2, 0);
            for (int place = 0; place < 24; place++) {
                Due.due("all 0", x.item(0, place), 0);
            }
            x.mark(0, 3, 3);
        }
        x.sheet(0, 1, 1);
        Due.due("fewer places", x.mark(0, 1, 1), Due.INDEX);
        x.sheet(0, 1, 4);
        Due.due("more again, all 0", placeOf(x, 0, 3), 0);
        for (int n : new int[] {Due.LEAST, -1, 0, 24, 25, Due.MOST}) {
            x.sheet(0, 0, 2);
            Due.due("missing, n " + n, x.sheet(0, -1, n), 0);
            Due.due("it is missing", x.reads(0), Due.NOTHING);
        }
        Due.says(29, "BAD: sheet, sort, n above 24; SIZE");
        x.sheet(0, 1, 1);
        x.mark(0, 0, 6);
        for (int n : new int[] {25, Due.MOST}) {
            Due.due("n " + n, x.sheet(0, 0, n), Due.BAD);
        }
        for (int n : new int[] {-1, Due.LEAST}) {
            Due.due("n " + n, x.sheet(0, 0, n), Due.SIZE);
            Due.due("sheet ahead of size", x.sheet(4, 0, n), Due.BAD);
            Due.due("sort ahead of size", x.sheet(0, 2, n), Due.BAD);
        }
        for (int sort : new int[] {Due.LEAST, -2, 2, Due.MOST}) {
            Due.due("sort " + sort, x.sheet(0, sort, 1), Due.BAD);
        }
        for (int sheet : NO_SHEETS) {
            Due.due("sheet " + sheet + " made missing", x.sheet(sheet, -1, 1), Due.BAD);
        }
        Due.due("it is as it was", placeOf(x, 0, 0), 6);
    }

    private static int marked(int sort, int v) {
        SnowOwed x = new SnowOwed();
        x.sheet(2, sort, 1);
        Due.due("mark " + v, x.mark(2, 0, v), 1);
        return placeOf(x, 2, 0);
    }

    private static void marksOfShorts() {
        Due.says(30, "of shorts its lowest 16 bits");
        int[] all = {0, 1, -1, 32767, 32768, 65535, 65536, -32768, -32769, 99999, 100000, Due.LEAST, Due.MOST, Due.BAD, Due.NOTHING,
            Due.NONE + 1, Due.NONE - 1};
        for (int v : all) {
            int low = v & 65535;
            Due.due("short " + v, marked(0, v), low > 32767 ? low - 65536 : low);
        }
    }

    private static void marksOfFloats() {
        Due.says(30, "of floats v, -99999 .. 99999; NONE: NO NUMBER): 1");
        for (int v : new int[] {0, 1, -1, 32768, -32769, 99999, -99999}) {
            Due.due("float " + v, marked(1, v), v);
        }
        Due.due("no number", marked(1, Due.NONE), Due.KIND);
    }

    private static void refusedMarks() {
        Due.says(30, "BAD: sheet; NOTHING; INDEX; KIND: NONE in a row of shorts; BAD: v of floats");
        SnowOwed x = new SnowOwed();
        x.sheet(0, 0, 2);
        x.sheet(1, 1, 2);
        for (int sheet : NO_SHEETS) {
            Due.due("sheet " + sheet, x.mark(sheet, 0, 0), Due.BAD);
        }
        Due.due("missing", x.mark(3, 0, 0), Due.NOTHING);
        Due.due("missing ahead of no place", x.mark(3, 9, 0), Due.NOTHING);
        for (int place : new int[] {Due.LEAST, -1, 2, 24, Due.MOST}) {
            Due.due("place " + place, x.mark(0, place, 0), Due.INDEX);
            Due.due("no place ahead of none in shorts", x.mark(0, place, Due.NONE), Due.INDEX);
            Due.due("no place ahead of v of floats", x.mark(1, place, 100000), Due.INDEX);
        }
        Due.due("none in shorts", x.mark(0, 1, Due.NONE), Due.KIND);
        for (int v : new int[] {Due.LEAST, -100000, 100000, Due.MOST, Due.NONE + 1, Due.NONE - 1, Due.BAD}) {
            Due.due("float " + v, x.mark(1, 1, v), Due.BAD);
        }
        Due.due("shorts as they were", placeOf(x, 0, 1), 0);
        Due.due("floats as they were", placeOf(x, 1, 1), 0);
    }

    private static void pours() {
        Due.says(31, "SNOW of YARDS, by numbers, becomes the places of a SHEET from 0 on (each held within 0 .. 999; NO NUMBER, and beyond the SHEET: it stays): how many are otherwise then");
        SnowOwed x = new SnowOwed();
        x.sheet(0, 1, 9);
        int[] told = {-99999, -1, 0, 999, 1000, 99999, Due.NONE, 5, 6};
        int[] due = {0, 0, 0, 999, 999, 999, 50, 5, 6, 50};
        for (int i = 0; i < 9; i++) {
            x.mark(0, i, told[i]);
        }
        Due.due("no yards", x.pour(0), 0);
        for (int i = 0; i < 10; i++) {
            x.yard(0, 50, 1);
        }
        Due.due("eight are otherwise", x.pour(0), 8);
        for (int i = 0; i < 10; i++) {
            Due.due("snow " + i, x.told(i, 1), due[i]);
        }
        Due.due("none is otherwise again", x.pour(0), 0);
        x.set(3, 1, 998);
        Due.due("one is", x.pour(0), 1);
        x.sheet(1, 0, 0);
        Due.due("no places: all stay", x.pour(1), 0);
        x.sheet(1, 0, 24);
        Due.due("more places than yards", x.pour(1), 7);
        Due.due("no snow anywhere", x.count(6), 0);
        x.mark(1, 0, 32768);
        Due.due("a short below 0 is held at 0", x.pour(1), 0);
        Due.says(31, "BAD; NOTHING");
        for (int sheet : NO_SHEETS) {
            Due.due("sheet " + sheet, x.pour(sheet), Due.BAD);
        }
        Due.due("missing", x.pour(2), Due.NOTHING);
    }

    private static void reads() {
        Due.says(32, "The first place (of numbers alone) at which a SHEET is not KILOS of that LAYER (of places that are no LAYER all numbers are not)");
        SnowOwed x = new SnowOwed();
        x.sheet(0, 1, 24);
        Due.due("0 is a number: no layer 0", x.reads(0), 0);
        for (int i = 0; i < 24; i++) {
            x.mark(0, i, Due.NONE);
        }
        Due.says(32, "BAD; NOTHING; NONE: there is none");
        Due.due("no numbers", x.reads(0), Due.NONE);
        x.mark(0, 23, 0);
        Due.due("the last place", x.reads(0), 23);
        x.yard(0, 0, 1);
        x.yard(0, 0, 1);
        for (int i = 0; i < 24; i++) {
            x.pack(i % 2, i + 1);
            x.mark(0, i, i + 1);
        }
        Due.due("24 layers are as told", x.reads(0), Due.NONE);
        x.pack(0, 1);
        Due.due("more layers than places", x.reads(0), Due.NONE);
        x.pack(1, 1);
        x.mark(0, 22, 24);
        Due.due("place 22", x.reads(0), 22);
        x.mark(0, 22, Due.NONE);
        Due.due("no number there", x.reads(0), Due.NONE);
        x.mark(0, 1, 1);
        Due.due("place 1", x.reads(0), 1);
        x.mark(0, 0, -1);
        Due.due("place 0", x.reads(0), 0);
        x.sheet(1, 0, 0);
        Due.due("no places", x.reads(1), Due.NONE);
        Due.due("missing", x.reads(2), Due.NOTHING);
        for (int sheet : NO_SHEETS) {
            Due.due("sheet " + sheet, x.reads(sheet), Due.BAD);
        }
    }

    private static SnowOwed rows() {
        SnowOwed x = new SnowOwed();
        x.sheet(0, 1, 24);
        for (int i = 0; i < 24; i++) {
            x.mark(0, i, i == 5 ? Due.NONE : i + 1);
        }
        x.sheet(1, 1, 3);
        x.sheet(2, 0, 3);
        return x;
    }

    private static void rowIs(String what, SnowOwed x, int sheet, int... due) {
        x.lay(4, 2, sheet);
        for (int i = 0; i < due.length; i++) {
            Due.due(what + ", place " + i, x.item(4, i), due[i]);
        }
        Due.due(what + ", places", x.item(4, due.length), Due.INDEX);
    }

    private static void copies() {
        Due.says(33, "So many places of a SHEET come to another one (or the same), as they were: many");
        SnowOwed x = rows();
        Due.due("the last two", x.copy(0, 22, 1, 1, 2), 2);
        rowIs("the last two", x, 1, 0, 23, 24);
        Due.due("with no number", x.copy(0, 4, 1, 0, 3), 3);
        rowIs("with no number", x, 1, 5, Due.KIND, 7);
        Due.due("the same, forwards over itself", x.copy(1, 0, 1, 1, 2), 2);
        rowIs("forwards", x, 1, 5, 5, Due.KIND);
        x = rows();
        x.copy(0, 0, 1, 0, 3);
        Due.due("the same, back over itself", x.copy(1, 1, 1, 0, 2), 2);
        rowIs("back", x, 1, 2, 3, 3);
        Due.due("on itself", x.copy(1, 0, 1, 0, 3), 3);
        rowIs("on itself", x, 1, 2, 3, 3);
        Due.due("all 24", x.copy(0, 0, 0, 0, 24), 24);
        Due.due("none", x.copy(0, 0, 1, 0, 0), 0);
        Due.due("none, behind the last places", x.copy(0, 24, 1, 3, 0), 0);
        x.sheet(3, 1, 0);
        Due.due("none of none", x.copy(3, 0, 3, 0, 0), 0);
        rowIs("nothing changed", x, 1, 2, 3, 3);
        x.mark(2, 0, -7);
        Due.due("shorts", x.copy(2, 0, 2, 2, 1), 1);
        rowIs("shorts", x, 2, -7, 0, -7);
        Due.says(33, "(From a SHEET, its place, to a SHEET, its place.)");
        x = rows();
        x.copy(0, 1, 1, 2, 1);
        rowIs("from 0, place 1, to 1, place 2", x, 1, 0, 0, 2);
    }

    private static void refusedCopies() {
        Due.says(33, "BAD; NOTHING; KIND: they are not of one sort; INDEX");
        SnowOwed x = rows();
        for (int sheet : NO_SHEETS) {
            Due.due("from " + sheet, x.copy(sheet, 0, 0, 0, 1), Due.BAD);
            Due.due("to " + sheet, x.copy(0, 0, sheet, 0, 1), Due.BAD);
            Due.due("bad ahead of missing", x.copy(3, 0, sheet, 0, 1), Due.BAD);
        }
        Due.due("from a missing one", x.copy(3, 0, 0, 0, 1), Due.NOTHING);
        Due.due("to a missing one", x.copy(0, 0, 3, 0, 1), Due.NOTHING);
        Due.due("missing ahead of no place", x.copy(3, 99, 3, -1, 1), Due.NOTHING);
        Due.due("floats to shorts", x.copy(0, 0, 2, 0, 1), Due.KIND);
        Due.due("shorts to floats", x.copy(2, 0, 0, 0, 1), Due.KIND);
        Due.due("not of one sort, though none come", x.copy(2, 0, 0, 0, 0), Due.KIND);
        Due.due("not of one sort, ahead of no place", x.copy(2, 99, 0, -1, 1), Due.KIND);
        int[][] wrong = { // place, at, many
            {-1, 0, 1}, {0, -1, 1}, {24, 0, 1}, {0, 3, 1}, {23, 0, 2}, {0, 2, 2}, {0, 0, 4}, {25, 0, 0}, {0, 4, 0}, {-1, 0, 0},
            {0, -1, 0}, {0, 0, -1}, {1, 1, -1}, {0, 0, Due.LEAST}, {0, 0, Due.MOST}, {Due.MOST, 0, 1}, {0, Due.MOST, 1},
            {Due.LEAST, 0, 1}, {0, Due.LEAST, 1}, {Due.MOST, Due.MOST, Due.MOST}, {1, 1, Due.MOST}};
        for (int[] w : wrong) {
            Due.due("copy(0, " + w[0] + ", 1, " + w[1] + ", " + w[2] + ")", x.copy(0, w[0], 1, w[1], w[2]), Due.INDEX);
        }
        rowIs("nothing changed", x, 1, 0, 0, 0);
    }

    private static void lays() {
        Due.says(34, "A SLOT holds: thing 0 nothing, 1 YARD k, 2 SHEET k, 3 the number k: what it held (0 .. 3)");
        SnowOwed x = rows();
        x.yard(0, 9, 1);
        int[] ks = {77, 0, 1, -5};
        for (int before = 0; before <= 3; before++) {
            for (int next = 0; next <= 3; next++) {
                x.lay(2, before, ks[before]);
                Due.due(next + " on " + before, x.lay(2, next, ks[next]), before);
            }
        }
        for (int k : new int[] {Due.LEAST, Due.MOST, Due.NONE, Due.BAD, 0}) {
            Due.due("number " + k, x.lay(0, 3, k), k == Due.LEAST ? 0 : 3);
            Due.due("it is there", x.rest(0, 1000), k % 1000);
        }
        Due.due("nothing, k any", x.lay(0, 0, Due.LEAST), 3);
        Due.says(34, "BAD: slot, thing, k; NOTHING: that SHEET is MISSING");
        x.lay(0, 3, 8);
        for (int slot : NO_SLOTS) {
            Due.due("slot " + slot, x.lay(slot, 3, 1), Due.BAD);
        }
        for (int thing : new int[] {Due.LEAST, -1, 4, Due.MOST}) {
            Due.due("thing " + thing, x.lay(0, thing, 0), Due.BAD);
        }
        for (int yard : new int[] {Due.LEAST, -1, 1, 9, 10, Due.MOST}) {
            Due.due("yard " + yard, x.lay(0, 1, yard), Due.BAD);
        }
        for (int sheet : NO_SHEETS) {
            Due.due("sheet " + sheet, x.lay(0, 2, sheet), Due.BAD);
        }
        Due.due("missing", x.lay(0, 2, 3), Due.NOTHING);
        Due.due("bad slot ahead of missing", x.lay(5, 2, 3), Due.BAD);
        Due.due("it holds what it held", x.rest(0, 100), 8);
    }

    private static void asks() {
        Due.says(35, "WORTH of the YARD in a SLOT, taken for one of a KIND (0 .. 5)");
        SnowOwed x = rows();
        x.yard(3, 999, 1);
        x.yard(4, 999, 1);
        x.lay(0, 1, 0);
        x.lay(1, 1, 1);
        for (int kind : new int[] {0, 1, 3}) {
            Due.due("steep taken for " + kind, x.ask(0, kind), 2008);
        }
        for (int kind : new int[] {0, 2, 4}) {
            Due.due("vain taken for " + kind + ", below 0", x.ask(1, kind), -8);
        }
        Due.says(35, "BAD; NOTHING; KIND: it is no YARD, or not of that KIND, nor of one under it");
        for (int kind : new int[] {2, 4, 5}) {
            Due.due("steep is no " + kind, x.ask(0, kind), Due.KIND);
        }
        x.lay(2, 2, 0);
        x.lay(3, 3, 0);
        Due.due("a sheet is no yard", x.ask(2, 0), Due.KIND);
        Due.due("a number is no yard", x.ask(3, 0), Due.KIND);
        Due.due("nothing", x.ask(4, 0), Due.NOTHING);
        for (int slot : NO_SLOTS) {
            Due.due("slot " + slot, x.ask(slot, 0), Due.BAD);
        }
        for (int kind : new int[] {Due.LEAST, -1, 6, Due.MOST}) {
            Due.due("kind " + kind, x.ask(0, kind), Due.BAD);
            Due.due("kind " + kind + " ahead of nothing", x.ask(4, kind), Due.BAD);
            Due.due("kind " + kind + " ahead of no yard", x.ask(2, kind), Due.BAD);
        }
        x.lay(0, 0, 0);
        Due.due("nothing any more", x.ask(0, 0), Due.NOTHING);
    }

    private static void items() {
        Due.says(36, "A place of the SHEET in a SLOT");
        SnowOwed x = rows();
        x.yard(0, 1, 1);
        x.lay(0, 2, 0);
        Due.due("the first", x.item(0, 0), 1);
        Due.due("the last", x.item(0, 23), 24);
        Due.says(36, "BAD: slot; NOTHING; KIND: it is no SHEET; INDEX; KIND: NO NUMBER");
        Due.due("no number", x.item(0, 5), Due.KIND);
        for (int place : new int[] {Due.LEAST, -1, 24, Due.MOST}) {
            Due.due("place " + place, x.item(0, place), Due.INDEX);
        }
        x.lay(1, 1, 0);
        x.lay(2, 3, 0);
        x.sheet(3, 0, 0);
        x.lay(4, 2, 3);
        Due.due("a yard", x.item(1, 0), Due.KIND);
        Due.due("a number, ahead of no place", x.item(2, -1), Due.KIND);
        Due.due("nothing, ahead of no place", x.item(3, -1), Due.NOTHING);
        Due.due("no places", x.item(4, 0), Due.INDEX);
        for (int slot : NO_SLOTS) {
            Due.due("slot " + slot, x.item(slot, 0), Due.BAD);
        }
        x.lay(0, 3, 7);
        Due.due("no sheet any more", x.item(0, 0), Due.KIND);
    }

    private static void rests() {
        Due.says(37, "The rest of the number in a SLOT by n");
        int[][] due = {{11, 4, 3}, {-11, 4, -3}, {11, -4, 3}, {-11, -4, -3}, {0, 5, 0}, {5, 1, 0}, {5, -1, 0}, {5, 6, 5}, {5, 5, 0},
            {Due.LEAST, -1, 0}, {Due.LEAST, Due.MOST, -1}, {Due.MOST, Due.LEAST, Due.MOST}, {Due.LEAST, Due.LEAST, 0}};
        SnowOwed x = rows();
        for (int[] d : due) {
            x.lay(0, 3, d[0]);
            Due.due(d[0] + " by " + d[1], x.rest(0, d[1]), d[2]);
        }
        Due.says(37, "BAD: slot; NOTHING; KIND: it is no number; NO: n is 0");
        Due.due("by 0", x.rest(0, 0), Due.NO);
        x.lay(0, 3, 0);
        Due.due("0 by 0", x.rest(0, 0), Due.NO);
        x.yard(0, 1, 1);
        x.lay(1, 1, 0);
        x.lay(2, 2, 0);
        Due.due("a yard", x.rest(1, 1), Due.KIND);
        Due.due("a sheet, ahead of by 0", x.rest(2, 0), Due.KIND);
        Due.due("nothing", x.rest(3, 1), Due.NOTHING);
        Due.due("nothing, ahead of by 0", x.rest(3, 0), Due.NOTHING);
        for (int slot : NO_SLOTS) {
            Due.due("slot " + slot, x.rest(slot, 0), Due.BAD);
        }
    }
}
