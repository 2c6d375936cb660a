/** The first part of the terms and promises 1 to 8 at their edges, sentence by sentence. */
public final class YardsEdgesTest {
    public static void main(String[] args) {
        cutsTowards0();
        tenYardsInARing();
        snowWithinBounds();
        gateWithinBounds();
        brokenAtFirst();
        kindsUnderOneAnother();
        ballAtFirst();
        thirtyLayers();
        kilosOneOrMore();
        rulesAtFirst();
        goneAtFirst();
        dayAtMost();
        weightOfNone();
        sizeWithoutText();
        sizeHeld();
        giftOfYard();
        giftOfSlope();
        giftOfProud();
        giftOfVain();
        giftOfStraw();
        goingOn();
        worths();
        kindsNotNamed();
        newObject();
        oneMoreYard();
        toldOfNone();
        asOneOfAKind();
        turning();
        setting();
        dealing();
        seeding();
        Due.end();
    }

    private static void cutsTowards0() {
        Due.says(0, "All numbers are whole; / cuts towards 0");
        SnowOwed x = Due.still();
        x.yard(0, 7, 1);
        Due.due("7 / 2", x.told(0, 4), 3);
        x.pack(0, 19);
        Due.due("19 / 10", x.ball(1), 1);
        Due.text(x, "fine (0-7)/2");
        Due.due("-7 / 2", x.fine(0), -3);
        Due.text(x, "fine 7/(0-2)");
        Due.due("7 / -2", x.fine(0), -3);
        Due.text(x, "fine (0-1)/2");
        Due.due("-1 / 2", x.fine(0), 0);
    }

    private static SnowOwed withYards(int n) {
        SnowOwed x = Due.still();
        for (int i = 0; i < n; i++) {
            Due.due("yard", x.yard(0, 0, 999), i);
        }
        return x;
    }

    private static void tenYardsInARing() {
        Due.says(0, "YARDS, 10 at most, numbered from 0 in a ring");
        SnowOwed x = withYards(10);
        Due.due("the eleventh", x.yard(0, 0, 1), Due.FULL);
        Due.due("still ten", x.count(0), 10);
        Due.due("yard 9 is there", x.told(9, 2), 999);
        x.at(9);
        x.days(1);
        Due.due("behind the last is the first", x.ball(2), 0);
        x.rule(2, -2);
        x.days(1);
        Due.due("ahead of the first is the last", x.ball(2), 9);
        SnowOwed nine = withYards(9);
        Due.due("the tenth", nine.yard(0, 0, 1), 9);
    }

    private static void snowWithinBounds() {
        Due.says(0, "SNOW 0 .. 999");
        SnowOwed x = withYards(1);
        for (int v : new int[] {Due.LEAST, -1, 1000, Due.MOST}) {
            Due.due("yard of snow " + v, x.yard(0, v, 1), Due.BAD);
            Due.due("set snow " + v, x.set(0, 1, v), Due.BAD);
        }
        Due.due("none came", x.count(0), 1);
        Due.due("it stays", x.told(0, 1), 0);
        Due.due("yard of snow 0", x.yard(0, 0, 1), 1);
        Due.due("yard of snow 999", x.yard(0, 999, 1), 2);
        Due.due("0", x.told(1, 1), 0);
        Due.due("999", x.told(2, 1), 999);
        Due.due("set snow 0", x.set(2, 1, 0), 999);
        Due.due("set snow 999", x.set(1, 1, 999), 0);
    }

    private static void gateWithinBounds() {
        Due.says(0, "GATE 1 .. 999");
        SnowOwed x = withYards(1);
        for (int v : new int[] {Due.LEAST, -1, 0, 1000, Due.MOST}) {
            Due.due("yard of gate " + v, x.yard(0, 1, v), Due.BAD);
            Due.due("set gate " + v, x.set(0, 2, v), Due.BAD);
        }
        Due.due("none came", x.count(0), 1);
        Due.due("it stays", x.told(0, 2), 999);
        Due.due("yard of gate 1", x.yard(0, 0, 1), 1);
        Due.due("yard of gate 999", x.yard(0, 0, 999), 2);
        Due.due("1", x.told(1, 2), 1);
        Due.due("999", x.told(2, 2), 999);
        Due.due("set gate 1", x.set(2, 2, 1), 999);
        Due.due("set gate 999", x.set(1, 2, 999), 1);
    }

    private static void brokenAtFirst() {
        Due.says(0, "BROKEN (how often; 0 at first)");
        SnowOwed x = withYards(1);
        x.keep();
        x.yard(0, 0, 1);
        Due.due("at first", x.told(1, 3), 0);
        x.pack(1, 50);
        x.at(1);
        x.days(1);
        Due.due("once", x.told(1, 3), 1);
        x.set(1, 2, 1);
        Due.due("a gate that is set stays broken once", x.told(1, 3), 1);
        x.at(1);
        x.days(1);
        Due.due("twice", x.told(1, 3), 2);
        x.back();
        x.yard(0, 0, 1);
        Due.due("another yard of that number, at first", x.told(1, 3), 0);
        x.back();
        x.deal(1);
        Due.due("a drawn one, at first", x.told(1, 3), 0);
    }

    private static void kindsUnderOneAnother() {
        Due.says(0, "0 YARD; 1 SLOPE, 2 PROUD, 5 STRAW, under YARD; 3 STEEP, under SLOPE; 4 VAIN, under PROUD (all are YARDS)");
        String[] above = {"0", "01", "02", "013", "024", "05"};
        for (int kind = 0; kind <= 5; kind++) {
            SnowOwed x = new SnowOwed();
            Due.due("kind " + kind, x.yard(kind, 8, 9), 0);
            Due.due("told", x.told(0, 0), kind);
            x.lay(0, 1, 0);
            for (int as = 0; as <= 5; as++) {
                boolean is = above[kind].indexOf('0' + as) >= 0;
                Due.due(kind + " as " + as, x.as(0, as), is ? 8 : Due.KIND);
                Due.due(kind + " asked as " + as, x.ask(0, as), is ? x.told(0, 6) : Due.KIND);
            }
        }
        SnowOwed x = withYards(1);
        for (int kind : new int[] {Due.LEAST, -1, 6, Due.MOST}) {
            Due.due("yard of kind " + kind, x.yard(kind, 1, 1), Due.BAD);
            Due.due("turns to kind " + kind, x.turns(0, kind), Due.BAD);
            Due.due("as kind " + kind, x.as(0, kind), Due.BAD);
            Due.due("ask kind " + kind, x.ask(0, kind), Due.BAD);
        }
    }

    private static void ballAtFirst() {
        Due.says(0, "THE BALL is AT a YARD (0 at first)");
        Due.due("without yards", new SnowOwed().ball(2), 0);
        Due.due("with three", withYards(3).ball(2), 0);
    }

    private static void thirtyLayers() {
        Due.says(0, "in LAYERS, 30 at most, numbered from 0 from within");
        SnowOwed x = withYards(2);
        for (int i = 0; i < 30; i++) {
            Due.due("layers", x.ball(3), i);
            x.pack(i % 2, i + 1);
        }
        Due.due("thirty", x.ball(3), 30);
        x.pack(0, 1);
        Due.due("no more than thirty", x.ball(3), 30);
        Due.due("the innermost", x.layer(0, 1), 1);
        Due.due("the outermost but one", x.layer(28, 1), 29);
        Due.due("the outermost", x.layer(29, 1), 31);
        Due.due("no layer 30", x.layer(30, 1), Due.BAD);
        Due.due("no layer -1", x.layer(-1, 1), Due.BAD);
    }

    private static void kilosOneOrMore() {
        Due.says(0, "a YARD and KILOS 1 or more each");
        SnowOwed x = withYards(1);
        Due.due("none of nothing", x.pack(0, 0), Due.BAD);
        Due.due("no layer", x.ball(3), 0);
        Due.due("one kilo", x.pack(0, 1), 1);
        Due.due("a layer", x.layer(0, 1), 1);
        x.rule(0, 1);
        x.seed(Due.seedFor(1, 2));
        x.days(1);
        Due.due("no layer of 0", x.ball(3), 0);
        Due.due("none to be told", x.layer(0, 1), Due.BAD);
    }

    private static void rulesAtFirst() {
        Due.says(0, "WARM is 0 .. 99 (5 at first), FALL 0 .. 99 (3)");
        for (int what = 0; what <= 1; what++) {
            SnowOwed x = new SnowOwed();
            int first = what == 0 ? 5 : 3;
            for (int v : new int[] {Due.LEAST, -1, 100, Due.MOST}) {
                Due.due("rule " + what + " " + v, x.rule(what, v), Due.BAD);
            }
            Due.due("at first", x.count(2 + what), first);
            Due.due("99", x.rule(what, 99), first);
            Due.due("0", x.rule(what, 0), 99);
            Due.due("is 0", x.count(2 + what), 0);
        }
    }

    private static void goneAtFirst() {
        Due.says(0, "GONE is 0 at first");
        Due.due("gone", new SnowOwed().ball(4), 0);
    }

    private static void dayAtMost() {
        Due.says(0, "THE DAY is 0 at first, 9999 at most");
        SnowOwed x = new SnowOwed();
        Due.due("at first", x.count(1), 0);
        Due.toDay(x, 9998);
        Due.due("9998", x.count(1), 9998);
        x.days(1);
        Due.due("9999", x.count(1), 9999);
        x.days(1);
        Due.due("9999 at most", x.count(1), 9999);
        x.yard(0, 0, 1);
        x.days(100);
        Due.due("with a yard too", x.count(1), 9999);
    }

    private static void weightOfNone() {
        Due.says(0, "WEIGHT: KILOS of all LAYERS, together");
        SnowOwed x = withYards(2);
        Due.due("no layers", x.ball(0), 0);
        x.pack(0, 999);
        x.pack(1, 999);
        x.pack(0, 1);
        Due.due("three layers", x.ball(0), 1999);
    }

    private static SnowOwed ofWeight(int kilos) {
        SnowOwed x = withYards(1);
        for (int left = kilos; left > 0; left -= 999) {
            x.pack(0, Math.min(999, left));
        }
        Due.due("weight", x.ball(0), kilos);
        return x;
    }

    private static void sizeWithoutText() {
        Due.says(0, "(without a TEXT: WEIGHT / 10, 999 at most)");
        int[][] due = {{0, 0}, {9, 0}, {10, 1}, {19, 1}, {20, 2}, {9989, 998}, {9990, 999}, {9999, 999}, {10000, 999}, {20000, 999}};
        for (int[] d : due) {
            Due.due("size of " + d[0], ofWeight(d[0]).ball(1), d[1]);
        }
    }

    private static void sizeHeld() {
        Due.says(0, "SIZE: what size gives, held within 0 .. 999");
        Object[][] due = {{"0", 0}, {"1", 1}, {"998", 998}, {"999", 999}, {"1000", 999}, {"0-1", 0}, {"0-9999", 0},
            {"9999*9999*20", 999}, {"8*8*8*8*8*8*8*8*8*8*2", 0}, {"8*8*8*8*8*8*8*8*8*8*2-1", 999}};
        for (Object[] d : due) {
            SnowOwed x = new SnowOwed();
            Due.text(x, "size " + d[0]);
            Due.due("size " + d[0], x.ball(1), (Integer) d[1]);
        }
    }

    /** GIVES of a YARD of this KIND and SNOW; without a TEXT, if give is null. */
    private static int gift(int kind, int snow, String give) {
        SnowOwed x = Due.still();
        x.yard(kind, snow, 999);
        if (give != null) {
            Due.due("text", Due.text(x, "give " + give), 0);
        }
        int told = x.told(0, 4);
        x.days(1);
        Due.due("a day gives as it is told", x.ball(0), told);
        Due.due("and so much less is there", x.told(0, 1), snow - told);
        return told;
    }

    private static void gifts(int kind, String give, int[][] due) {
        for (int[] d : due) {
            Due.due("kind " + kind + ", snow " + d[0] + ", give " + give, gift(kind, d[0], give), d[1]);
        }
    }

    private static void giftOfYard() {
        Due.says(0, "YARD: what give gives, held within 0 .. SNOW (without a TEXT: SNOW / 2)");
        gifts(0, null, new int[][] {{0, 0}, {1, 0}, {2, 1}, {3, 1}, {998, 499}, {999, 499}});
        gifts(0, "s", new int[][] {{0, 0}, {1, 1}, {999, 999}});
        gifts(0, "s+1", new int[][] {{0, 0}, {1, 1}, {999, 999}});
        gifts(0, "s-1", new int[][] {{0, 0}, {1, 0}, {2, 1}, {999, 998}});
        gifts(0, "0-1", new int[][] {{0, 0}, {999, 0}});
        gifts(0, "8*8*8*8*8*8*8*8*8*8*2", new int[][] {{999, 0}});
        gifts(0, "8*8*8*8*8*8*8*8*8*8*2-1", new int[][] {{0, 0}, {999, 999}});
    }

    private static void giftOfSlope() {
        Due.says(0, "SLOPE: half (cut) of as YARD");
        gifts(1, "s", new int[][] {{0, 0}, {1, 0}, {2, 1}, {3, 1}, {999, 499}});
        gifts(1, null, new int[][] {{3, 0}, {4, 1}, {7, 1}, {999, 249}});
        gifts(1, "9999", new int[][] {{10, 5}, {11, 5}});
        gifts(1, "0-9", new int[][] {{10, 0}});
    }

    private static void giftOfProud() {
        Due.says(0, "PROUD: as YARD, and 10 (SNOW at most)");
        gifts(2, null, new int[][] {{0, 0}, {1, 1}, {18, 18}, {19, 19}, {20, 20}, {21, 20}, {22, 21}, {999, 509}});
        gifts(2, "0-5", new int[][] {{9, 9}, {10, 10}, {11, 10}});
        gifts(2, "s", new int[][] {{0, 0}, {999, 999}});
        gifts(2, "s-10", new int[][] {{999, 999}});
        gifts(2, "s-11", new int[][] {{999, 998}});
    }

    private static void giftOfVain() {
        Due.says(0, "VAIN: twice as PROUD (SNOW at most)");
        gifts(4, null, new int[][] {{0, 0}, {1, 1}, {20, 20}, {21, 21}, {998, 998}, {999, 999}});
        gifts(4, "0", new int[][] {{9, 9}, {10, 10}, {19, 19}, {20, 20}, {21, 20}});
        gifts(4, "5", new int[][] {{29, 29}, {30, 30}, {31, 30}});
        gifts(4, "s", new int[][] {{999, 999}});
    }

    private static void giftOfStraw() {
        Due.says(0, "STRAW: 0");
        gifts(5, null, new int[][] {{0, 0}, {999, 0}});
        gifts(5, "s", new int[][] {{999, 0}});
    }

    private static void goingOn() {
        Due.says(0, "GOES ON by: YARD: 1");
        Due.due("yard", goesOn(0, 0), 1);
        Due.due("yard, on the last day", goesOn(0, 9999), 1);
        Due.says(0, "STEEP: 2");
        Due.due("steep", goesOn(3, 0), 2);
        Due.due("steep, on an odd day", goesOn(3, 1), 2);
        Due.says(0, "STRAW: 0, if THE DAY is even, else 1");
        int[][] due = {{0, 0}, {1, 1}, {2, 0}, {9998, 0}, {9999, 1}};
        for (int[] d : due) {
            Due.due("straw on day " + d[0], goesOn(5, d[0]), d[1]);
        }
    }

    private static int goesOn(int kind, int day) {
        SnowOwed x = Due.still();
        Due.toDay(x, day);
        for (int i = 0; i < 3; i++) {
            x.yard(kind, 0, 999);
        }
        Due.due("a day goes on as it is told", x.behind(1, 1), x.told(1, 5));
        return x.told(0, 5);
    }

    private static int worth(int kind, int snow, int gate) {
        SnowOwed x = new SnowOwed();
        x.yard(kind, snow, gate);
        return x.told(0, 6);
    }

    private static void worths() {
        Due.says(0, "WORTH: YARD: SNOW");
        Due.due("least snow and gate", worth(0, 0, 1), 0);
        Due.due("greatest snow and gate", worth(0, 999, 999), 999);
        Due.says(0, "SLOPE: as YARD, and 5");
        Due.due("least snow and gate", worth(1, 0, 1), 5);
        Due.due("greatest snow and gate", worth(1, 999, 999), 1004);
        Due.says(0, "PROUD: 999 less SNOW");
        Due.due("least snow and gate", worth(2, 0, 1), 999);
        Due.due("greatest snow and gate", worth(2, 999, 999), 0);
        Due.says(0, "STEEP: twice as SLOPE");
        Due.due("least snow and gate", worth(3, 0, 1), 10);
        Due.due("greatest snow and gate", worth(3, 999, 999), 2008);
        Due.says(0, "VAIN: as PROUD, less 8");
        Due.due("least snow and gate", worth(4, 0, 1), 991);
        Due.due("greatest snow and gate", worth(4, 999, 999), -8);
        Due.says(0, "STRAW: GATE");
        Due.due("least snow and gate", worth(5, 0, 1), 1);
        Due.due("greatest snow and gate", worth(5, 999, 999), 999);
        Due.due("straw, whatever its snow", worth(5, 999, 1), 1);
    }

    private static void kindsNotNamed() {
        Due.says(0, "(A KIND that is not named does as the one above it.)");
        gifts(3, "s", new int[][] {{0, 0}, {1, 0}, {3, 1}, {999, 499}});
        for (int kind : new int[] {1, 2, 4}) {
            Due.due("goes on by 1, kind " + kind, goesOn(kind, 0), 1);
            Due.due("goes on by 1 on an odd day, kind " + kind, goesOn(kind, 1), 1);
        }
    }

    private static void newObject() {
        Due.says(1, "As told; no YARDS");
        SnowOwed x = new SnowOwed();
        Due.due("no yards", x.count(0), 0);
        Due.due("no yard 0", x.told(0, 0), Due.BAD);
        int[] due = {0, 0, 5, 3, 0, 0, 0, 0, 0, 0, 1};
        for (int what = 0; what <= 10; what++) {
            Due.due("count " + what, x.count(what), due[what]);
        }
        for (int what = 0; what <= 4; what++) {
            Due.due("ball " + what, x.ball(what), 0);
        }
        SnowOwed y = new SnowOwed();
        x.deal(3);
        Due.due("one object is not another", y.count(0), 0);
    }

    private static void oneMoreYard() {
        Due.says(2, "One more YARD: its number");
        SnowOwed x = withYards(9);
        Due.due("the last one", x.yard(5, 999, 1), 9);
        Due.says(2, "BAD; FULL");
        Due.due("full", x.yard(5, 999, 1), Due.FULL);
        Due.due("bad kind ahead of full", x.yard(6, 999, 1), Due.BAD);
        Due.due("bad snow ahead of full", x.yard(5, 1000, 1), Due.BAD);
        Due.due("bad gate ahead of full", x.yard(5, 999, 0), Due.BAD);
        Due.due("all of them", x.yard(-1, -1, -1), Due.BAD);
    }

    private static void toldOfNone() {
        Due.says(3, "4 GIVES (as if THE BALL were there), 5 GOES ON, 6 WORTH, 7 LED to it");
        SnowOwed x = withYards(2);
        x.set(1, 1, 100);
        Due.due("the ball is elsewhere", x.told(1, 4), 50);
        Due.due("nothing is led to it", x.told(1, 7), 0);
        Due.says(3, "BAD");
        for (int wrong : new int[] {Due.LEAST, -1, 2, Due.MOST}) {
            Due.due("told of yard " + wrong, x.told(wrong, 0), Due.BAD);
        }
        for (int wrong : new int[] {Due.LEAST, -1, 8, Due.MOST}) {
            Due.due("told " + wrong, x.told(0, wrong), Due.BAD);
        }
    }

    private static void asOneOfAKind() {
        Due.says(4, "A YARD as one of a KIND: SNOW");
        SnowOwed x = withYards(1);
        Due.due("snow 0", x.as(0, 0), 0);
        x.set(0, 1, 999);
        Due.due("snow 999", x.as(0, 0), 999);
        Due.says(4, "BAD: yard, kind; KIND: it is not of that KIND, nor of one under it");
        Due.due("a yard is no steep", x.as(0, 3), Due.KIND);
        Due.due("yard -1", x.as(-1, 3), Due.BAD);
        Due.due("yard 1", x.as(1, 3), Due.BAD);
        Due.due("kind -1", x.as(0, -1), Due.BAD);
        Due.due("kind 6", x.as(0, 6), Due.BAD);
    }

    private static void turning() {
        Due.says(5, "A YARD is of another KIND from now on: what it was");
        SnowOwed x = withYards(1);
        x.set(0, 1, 81);
        for (int kind = 5; kind > 0; kind--) {
            Due.due("turns", x.turns(0, kind), kind == 5 ? 0 : kind + 1);
        }
        Due.due("to the one it has", x.turns(0, 1), 1);
        Due.due("gives as it is now", x.told(0, 4), 20);
        Due.due("snow stays", x.told(0, 1), 81);
        Due.due("gate stays", x.told(0, 2), 999);
        Due.says(5, "BAD");
        Due.due("yard -1", x.turns(-1, 0), Due.BAD);
        Due.due("yard 1", x.turns(1, 0), Due.BAD);
        Due.due("kind -1", x.turns(0, -1), Due.BAD);
        Due.due("kind 6", x.turns(0, 6), Due.BAD);
    }

    private static void setting() {
        Due.says(6, "SNOW, GATE (what 1, 2) of a YARD becomes v: what it was");
        SnowOwed x = withYards(2);
        Due.due("snow", x.set(1, 1, 5), 0);
        Due.due("gate", x.set(1, 2, 5), 999);
        Due.due("snow of the other", x.told(0, 1), 0);
        Due.due("gate of the other", x.told(0, 2), 999);
        Due.says(6, "BAD");
        for (int what : new int[] {Due.LEAST, -1, 0, 3, Due.MOST}) {
            Due.due("what " + what, x.set(0, what, 1), Due.BAD);
        }
        for (int yard : new int[] {Due.LEAST, -1, 2, Due.MOST}) {
            Due.due("snow of yard " + yard, x.set(yard, 1, 1), Due.BAD);
            Due.due("gate of yard " + yard, x.set(yard, 2, 1), Due.BAD);
        }
        Due.due("v 1000 of gate", x.set(0, 2, 1000), Due.BAD);
        Due.due("v 0 of gate, which snow may be", x.set(0, 2, 0), Due.BAD);
    }

    private static void dealing() {
        Due.says(7, "n (1 .. 10) of them, as many as there is room for (no draws for others): how many came");
        Due.due("one", new SnowOwed().deal(1), 1);
        Due.due("ten", new SnowOwed().deal(10), 10);
        SnowOwed x = withYards(9);
        int z = x.count(10);
        Due.due("room for one", x.deal(10), 1);
        Due.due("three draws", x.count(10), Due.drawn(Due.drawn(Due.drawn(z))));
        z = x.count(10);
        Due.due("room for none", x.deal(1), 0);
        Due.due("no draws", x.count(10), z);
        Due.due("ten yards", x.count(0), 10);
        Due.says(7, "BAD");
        for (int n : new int[] {Due.LEAST, -1, 0, 11, Due.MOST}) {
            Due.due("deal " + n, x.deal(n), Due.BAD);
            Due.due("deal " + n + " to none", new SnowOwed().deal(n), Due.BAD);
        }
    }

    private static void seeding() {
        Due.says(8, "z becomes v: what it was");
        SnowOwed x = new SnowOwed();
        int was = 1;
        for (int v : new int[] {0, -1, Due.LEAST, Due.MOST, Due.BAD, Due.NONE}) {
            Due.due("seed " + v, x.seed(v), was);
            Due.due("z", x.count(10), v);
            was = v;
        }
    }
}
