/** Promises 1 to 8. */
public final class YardsTest {
    public static void main(String[] args) {
        newObject();
        yards();
        given();
        goingOn();
        worths();
        led();
        asKinds();
        turnsAndSet();
        dealt();
        Due.end();
    }

    private static void newObject() {
        SnowOwed x = new SnowOwed();
        int[] counts = {0, 0, 5, 3, 0, 0, 0, 0, 0, 0, 1};
        for (int what = 0; what < counts.length; what++) {
            Due.due("count " + what + " of a new object", x.count(what), counts[what]);
        }
        for (int what = 0; what <= 4; what++) {
            Due.due("ball " + what + " of a new object", x.ball(what), 0);
        }
        for (int thing = 0; thing < 6; thing++) {
            Due.due("thing of a new object", x.thing(thing), Due.NONE);
        }
        for (int slot = 0; slot < 5; slot++) {
            Due.due("ask of a new object", x.ask(slot, 0), Due.NOTHING);
        }
        for (int sheet = 0; sheet < 4; sheet++) {
            Due.due("reads of a new object", x.reads(sheet), Due.NOTHING);
        }
        Due.due("told without yards", x.told(0, 0), Due.BAD);
        Due.due("layer without layers", x.layer(0, 0), Due.BAD);
        Due.due("why without texts", x.why(0), Due.NONE);
        Due.due("back without image", x.back(), Due.NO);
    }

    private static void yards() {
        SnowOwed x = new SnowOwed();
        Due.due("kind -1", x.yard(-1, 1, 1), Due.BAD);
        Due.due("kind 6", x.yard(6, 1, 1), Due.BAD);
        Due.due("snow -1", x.yard(0, -1, 1), Due.BAD);
        Due.due("snow 1000", x.yard(0, 1000, 1), Due.BAD);
        Due.due("gate 0", x.yard(0, 1, 0), Due.BAD);
        Due.due("gate 1000", x.yard(0, 1, 1000), Due.BAD);
        Due.due("count", x.count(0), 0);
        Due.due("least", x.yard(0, 0, 1), 0);
        Due.due("greatest", x.yard(5, 999, 999), 1);
        Due.due("kind", x.told(1, 0), 5);
        Due.due("snow", x.told(1, 1), 999);
        Due.due("gate", x.told(1, 2), 999);
        Due.due("broken", x.told(1, 3), 0);
        for (int i = 2; i < 10; i++) {
            Due.due("yard", x.yard(i % 6, i, i), i);
        }
        Due.due("eleventh", x.yard(0, 1, 1), Due.FULL);
        Due.due("bad ahead of full", x.yard(6, 1, 1), Due.BAD);
        Due.due("told below", x.told(-1, 0), Due.BAD);
        Due.due("told above", x.told(10, 0), Due.BAD);
        Due.due("what below", x.told(0, -1), Due.BAD);
        Due.due("what above", x.told(0, 8), Due.BAD);
    }

    private static void given() {
        int[][] due = { // by kind: SNOW 81, 10, 3, 0
            {40, 5, 1, 0}, {20, 2, 0, 0}, {50, 10, 3, 0}, {20, 2, 0, 0}, {81, 10, 3, 0}, {0, 0, 0, 0}};
        int[] snows = {81, 10, 3, 0};
        for (int kind = 0; kind < 6; kind++) {
            SnowOwed x = new SnowOwed();
            for (int i = 0; i < snows.length; i++) {
                x.yard(kind, snows[i], 7);
                Due.due("gives of kind " + kind + ", snow " + snows[i], x.told(i, 4), due[kind][i]);
            }
        }
        SnowOwed x = new SnowOwed();
        x.yard(4, 200, 1);
        Due.text(x, "give s/8");
        Due.due("vain, twice 25 and 10", x.told(0, 4), 70);
        x.turns(0, 2);
        Due.due("proud, 25 and 10", x.told(0, 4), 35);
        x.turns(0, 3);
        Due.due("steep, half of 25", x.told(0, 4), 12);
        Due.text(x, "give 0-5");
        x.turns(0, 2);
        Due.due("proud, held at 0, and 10", x.told(0, 4), 10);
        Due.text(x, "give 9999");
        x.turns(0, 1);
        Due.due("slope, held at 200, half", x.told(0, 4), 100);
    }

    private static void goingOn() {
        SnowOwed x = new SnowOwed();
        int[] even = {1, 1, 1, 2, 1, 0};
        for (int kind = 0; kind < 6; kind++) {
            x.yard(kind, 5, 999);
            Due.due("goes on, kind " + kind, x.told(kind, 5), even[kind]);
        }
        x.days(1);
        Due.due("straw, odd day", x.told(5, 5), 1);
        Due.due("steep, odd day", x.told(3, 5), 2);
        x.days(1);
        Due.due("straw, even day", x.told(5, 5), 0);
    }

    private static void worths() {
        SnowOwed x = new SnowOwed();
        int[] due = {30, 35, 969, 70, 961, 44};
        int[] dueOfMost = {999, 1004, 0, 2008, -8, 44};
        for (int kind = 0; kind < 6; kind++) {
            x.yard(kind, 30, 44);
            Due.due("worth, kind " + kind, x.told(kind, 6), due[kind]);
            x.set(kind, 1, 999);
            Due.due("worth of snow 999, kind " + kind, x.told(kind, 6), dueOfMost[kind]);
        }
    }

    private static void led() {
        SnowOwed x = new SnowOwed();
        x.yard(0, 1, 1);
        x.yard(0, 1, 1);
        x.yard(0, 1, 1);
        x.pack(0, 5);
        x.pack(1, 3);
        x.pack(0, 7);
        Due.due("led to 0", x.told(0, 7), 12);
        Due.due("led to 1", x.told(1, 7), 3);
        Due.due("led to 2", x.told(2, 7), 0);
    }

    private static void asKinds() {
        String[] under = {"0", "01", "02", "013", "024", "05"};
        SnowOwed x = new SnowOwed();
        for (int kind = 0; kind < 6; kind++) {
            x.yard(kind, 10 + kind, 1);
            for (int as = 0; as < 6; as++) {
                int due = under[kind].indexOf('0' + as) >= 0 ? 10 + kind : Due.KIND;
                Due.due("as(" + kind + ", " + as + ")", x.as(kind, as), due);
            }
        }
        Due.due("as, no yard", x.as(6, 0), Due.BAD);
        Due.due("as, yard below", x.as(-1, 0), Due.BAD);
        Due.due("as, no kind", x.as(0, 6), Due.BAD);
        Due.due("as, kind below", x.as(0, -1), Due.BAD);
    }

    private static void turnsAndSet() {
        SnowOwed x = new SnowOwed();
        Due.due("turns, no yard", x.turns(0, 0), Due.BAD);
        x.yard(2, 40, 9);
        Due.due("turns", x.turns(0, 4), 2);
        Due.due("turns again", x.turns(0, 4), 4);
        Due.due("turns, bad kind", x.turns(0, 6), Due.BAD);
        Due.due("turns, bad kind below", x.turns(0, -1), Due.BAD);
        Due.due("turns, bad yard", x.turns(1, 0), Due.BAD);
        Due.due("kind", x.told(0, 0), 4);
        Due.due("set snow", x.set(0, 1, 999), 40);
        Due.due("set snow 0", x.set(0, 1, 0), 999);
        Due.due("set snow -1", x.set(0, 1, -1), Due.BAD);
        Due.due("set snow 1000", x.set(0, 1, 1000), Due.BAD);
        Due.due("set gate", x.set(0, 2, 999), 9);
        Due.due("set gate 1", x.set(0, 2, 1), 999);
        Due.due("set gate 0", x.set(0, 2, 0), Due.BAD);
        Due.due("set gate 1000", x.set(0, 2, 1000), Due.BAD);
        Due.due("set 0", x.set(0, 0, 1), Due.BAD);
        Due.due("set 3", x.set(0, 3, 1), Due.BAD);
        Due.due("set, bad yard", x.set(1, 1, 1), Due.BAD);
        Due.due("snow", x.told(0, 1), 0);
        Due.due("gate", x.told(0, 2), 1);
    }

    private static void dealt() {
        SnowOwed x = new SnowOwed();
        Due.due("deal 0", x.deal(0), Due.BAD);
        Due.due("deal 11", x.deal(11), Due.BAD);
        Due.due("deal 1", new SnowOwed().deal(1), 1);
        Due.due("deal 10", new SnowOwed().deal(10), 10);
        Due.due("seed", x.seed(-77), 1);
        Due.due("z", x.count(10), -77);
        Due.due("deal", x.deal(7), 7);
        int z = drawnYards(x, -77, 0, 7);
        Due.due("deal more than there is room", x.deal(5), 3);
        z = drawnYards(x, z, 7, 10);
        Due.due("deal without room", x.deal(10), 0);
        Due.due("no draws for others", x.count(10), z);
        Due.due("seed told", x.seed(Integer.MIN_VALUE), z);
        Due.due("seed least", x.seed(0), Integer.MIN_VALUE);
    }

    private static int drawnYards(SnowOwed x, int from, int first, int end) {
        int z = from;
        for (int i = first; i < end; i++) {
            z = Due.drawn(z);
            Due.due("drawn kind", x.told(i, 0), (z >>> 8) % 6);
            z = Due.drawn(z);
            Due.due("drawn snow", x.told(i, 1), (z >>> 8) % 200);
            z = Due.drawn(z);
            Due.due("drawn gate", x.told(i, 2), 1 + (z >>> 8) % 100);
            Due.due("not broken", x.told(i, 3), 0);
        }
        Due.due("z behind the draws", x.count(10), z);
        return z;
    }
}
