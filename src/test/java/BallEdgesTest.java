/** The second part of the terms and promises 9 to 17 at their edges, sentence by sentence. */
public final class BallEdgesTest {
    public static void main(String[] args) {
        withoutYards();
        thawByRest();
        layersThatAreNoMore();
        moreThanThereIs();
        halfInStraw();
        goneTogether();
        givesNothing();
        givesToALayer();
        givesOnThirty();
        stepsTogether();
        stepsRound();
        stepsBack();
        sizeAboveGate();
        sizeIsThatOfThen();
        snowFalls();
        dayIsOneMore();
        sixThings();
        thingsComeOut();
        zWraps();
        drawnYards();
        rules();
        places();
        ofTheBall();
        ofALayer();
        packs();
        losing();
        finding();
        whereThingsAre();
        days();
        Due.end();
    }

    /** Yards that give nothing, with wide gates. */
    private static SnowOwed bare(int n) {
        SnowOwed x = Due.still();
        for (int i = 0; i < n; i++) {
            x.yard(0, 0, 999);
        }
        return x;
    }

    /** Passes a day in which x is this rest by 100. */
    private static void thaw(SnowOwed x, int rest) {
        x.rule(0, 99);
        x.seed(Due.seedFor(rest, 100));
        x.days(1);
    }

    private static void withoutYards() {
        Due.says(0, "A DAY (without YARDS THE DAY is 1 more alone)");
        SnowOwed x = new SnowOwed();
        x.rule(2, 9);
        Due.due("no gates", x.days(3), 0);
        Due.due("the day", x.count(1), 3);
        Due.due("no draw", x.count(10), 1);
        Due.due("at 0", x.ball(2), 0);
        Due.due("nothing gone", x.ball(4), 0);
        Due.due("no layers", x.ball(3), 0);
        Due.due("behind, no draw and no step", x.behind(100, 1), 0);
    }

    private static void thawByRest() {
        Due.says(0, "(1) THAW: a draw; x is its rest by (WARM and 1)");
        for (int warm : new int[] {0, 1, 5, 98, 99}) {
            for (int rest : new int[] {0, warm}) {
                SnowOwed x = bare(1);
                x.pack(0, 500);
                x.rule(0, warm);
                int seed = Due.seedFor(rest, warm + 1);
                x.seed(seed);
                x.days(1);
                Due.due("warm " + warm + ", rest " + rest, x.ball(0), 500 - rest);
                Due.due("one draw", x.count(10), Due.drawn(seed));
            }
        }
        SnowOwed empty = bare(1);
        empty.seed(77);
        empty.days(1);
        Due.due("a draw though there is no ball", empty.count(10), Due.drawn(77));
    }

    /** LAYERS of 5, 3 and 2 KILOS, of YARDS 0, 1, 0; the THINGS 0, 1, 2 are in them. */
    private static SnowOwed threeLayers() {
        SnowOwed x = bare(3);
        x.pack(0, 5);
        x.lose(0);
        x.pack(1, 3);
        x.lose(1);
        x.pack(0, 2);
        x.lose(2);
        return x;
    }

    private static void layersThatAreNoMore() {
        Due.says(0, "x KILOS go of THE BALL, from the outermost LAYERS on (a LAYER of which nothing is left is no more");
        int[][] due = { // x: how many layers, kilos of the outermost
            {0, 3, 2}, {1, 3, 1}, {2, 2, 3}, {3, 2, 2}, {4, 2, 1}, {5, 1, 5}, {6, 1, 4}, {9, 1, 1}};
        for (int[] d : due) {
            SnowOwed x = threeLayers();
            thaw(x, d[0]);
            Due.due("x " + d[0] + ": layers", x.ball(3), d[1]);
            Due.due("x " + d[0] + ": outermost", x.layer(d[1] - 1, 1), d[2]);
            Due.due("x " + d[0] + ": none beyond", x.layer(d[1], 1), Due.BAD);
            Due.due("x " + d[0] + ": weight", x.ball(0), 10 - d[0]);
        }
    }

    private static void moreThanThereIs() {
        Due.says(0, "x KILOS go of THE BALL");
        for (int rest : new int[] {10, 11, 99}) {
            SnowOwed x = threeLayers();
            thaw(x, rest);
            Due.due("x " + rest + ": no layers", x.ball(3), 0);
            Due.due("x " + rest + ": no weight", x.ball(0), 0);
            Due.due("x " + rest + ": gone", x.ball(4), 10);
        }
    }

    private static void halfInStraw() {
        Due.says(0, "in STRAW half (cut) of x");
        for (int rest : new int[] {0, 1, 2, 3, 99}) {
            SnowOwed x = Due.still();
            x.yard(5, 0, 999);
            x.yard(0, 0, 999);
            x.pack(0, 200);
            thaw(x, rest);
            Due.due("half of " + rest, x.ball(0), 200 - rest / 2);
            Due.due("gone", x.ball(4), rest / 2);
            x.at(1);
            thaw(x, rest);
            Due.due("all of it in another one", x.ball(0), 200 - rest / 2 - rest);
        }
    }

    private static void goneTogether() {
        Due.says(0, "they are GONE");
        SnowOwed x = threeLayers();
        thaw(x, 4);
        Due.due("four", x.ball(4), 4);
        thaw(x, 0);
        Due.due("none more", x.ball(4), 4);
        thaw(x, 5);
        Due.due("five more", x.ball(4), 9);
        thaw(x, 7);
        Due.due("one more, for there was but one", x.ball(4), 10);
        thaw(x, 50);
        Due.due("none of none", x.ball(4), 10);
    }

    private static void givesNothing() {
        Due.says(0, "and if it is above 0, the outermost LAYER is so much more");
        SnowOwed x = bare(2);
        x.days(1);
        Due.due("nothing given: no layer", x.ball(3), 0);
        x.pack(0, 4);
        x.days(1);
        Due.due("nothing given by the other: no layer", x.ball(3), 1);
        x.set(0, 1, 2);
        x.at(0);
        x.days(1);
        Due.due("one given", x.layer(0, 1), 5);
        Due.due("no layer more", x.ball(3), 1);
        x.set(1, 1, 2);
        x.at(1);
        x.days(1);
        Due.due("one given by the other: a layer", x.ball(3), 2);
        Due.due("of one kilo", x.layer(1, 1), 1);
    }

    private static void givesToALayer() {
        Due.says(0, "if it is of this YARD, else there is one more LAYER of it");
        SnowOwed x = bare(2);
        x.set(0, 1, 8);
        x.days(1);
        Due.due("the first layer", x.layer(0, 1), 4);
        x.pack(1, 3);
        x.at(0);
        x.days(1);
        Due.due("three layers", x.ball(3), 3);
        Due.due("the innermost, of this yard too, stays", x.layer(0, 1), 4);
        Due.due("of this yard", x.layer(2, 0), 0);
        Due.due("what was given", x.layer(2, 1), 2);
        Due.says(0, "SNOW is so much less");
        Due.due("8 less 4 less 2", x.told(0, 1), 2);
        x.turns(0, 4);
        x.at(0);
        x.days(1);
        Due.due("all of it", x.told(0, 1), 0);
        Due.due("to the same layer", x.layer(2, 1), 4);
    }

    private static SnowOwed thirty() {
        SnowOwed x = bare(3);
        for (int i = 0; i < 30; i++) {
            x.pack(i % 2, 2);
        }
        Due.due("thirty", x.ball(3), 30);
        return x;
    }

    private static void givesOnThirty() {
        Due.says(0, "(if there are 30: the outermost one is so much more, whosever it is)");
        SnowOwed x = thirty();
        x.set(2, 1, 10);
        x.at(2);
        x.days(1);
        Due.due("thirty still", x.ball(3), 30);
        Due.due("so much more", x.layer(29, 1), 7);
        Due.due("of yard 1 still", x.layer(29, 0), 1);
        Due.due("yard 2 has less", x.told(2, 1), 5);
        Due.due("nothing is led to yard 2", x.told(2, 7), 0);
        Due.due("pack likewise", x.pack(0, 1), 66);
        Due.due("so much more", x.layer(29, 1), 8);
        SnowOwed melts = thirty();
        melts.set(2, 1, 10);
        melts.at(2);
        thaw(melts, 2);
        Due.due("one melted first, so there is room", melts.ball(3), 30);
        Due.due("of yard 2", melts.layer(29, 0), 2);
        Due.due("five", melts.layer(29, 1), 5);
        SnowOwed few = thirty();
        few.at(2);
        thaw(few, 2);
        Due.due("29", few.ball(3), 29);
        few.pack(2, 6);
        Due.due("the thirtieth", few.layer(29, 0), 2);
    }

    private static void stepsTogether() {
        Due.says(0, "(3) THE BALL takes as many steps as the YARD GOES ON by and the move m (-9 .. 9; 0 at first) together");
        Due.due("at first", new SnowOwed().count(4), 0);
        int[][] due = { // kind, m, where from 0 in ten yards
            {0, 0, 1}, {0, -1, 0}, {0, 9, 0}, {0, 8, 9}, {0, -9, 2}, {0, -2, 9}, {3, 9, 1}, {3, -9, 3}, {3, -2, 0},
            {5, 0, 0}, {5, 9, 9}, {5, -9, 1}, {5, -1, 9}};
        for (int[] d : due) {
            SnowOwed x = Due.still();
            for (int i = 0; i < 10; i++) {
                x.yard(i == 0 ? d[0] : 5, 0, 999);
            }
            x.rule(2, d[1]);
            x.days(1);
            Due.due("kind " + d[0] + ", move " + d[1], x.ball(2), d[2]);
        }
    }

    /** Gates of 1 all round, SIZE 2: each that the ball goes through breaks once. */
    private static SnowOwed narrow(int n, int move) {
        SnowOwed x = Due.still();
        for (int i = 0; i < n; i++) {
            x.yard(0, 0, 1);
        }
        x.pack(0, 20);
        x.rule(2, move);
        return x;
    }

    private static void broken(String what, SnowOwed x, int... due) {
        for (int i = 0; i < due.length; i++) {
            Due.due(what + ", broken " + i, x.told(i, 3), due[i]);
            Due.due(what + ", gate " + i, x.told(i, 2), 1 + due[i]);
        }
    }

    private static void stepsRound() {
        Due.says(0, "one by one: to the YARD with the next number, round, through the GATE of the one that it leaves");
        SnowOwed x = narrow(4, 0);
        x.at(3);
        Due.due("from the last", x.days(1), 1);
        Due.due("to the first", x.ball(2), 0);
        broken("from the last", x, 0, 0, 0, 1);
        x = narrow(4, 2);
        x.at(2);
        Due.due("three steps", x.days(1), 3);
        Due.due("at 1", x.ball(2), 1);
        broken("three steps", x, 1, 0, 1, 1);
        x = narrow(3, 9);
        Due.due("ten steps break three gates once", x.days(1), 3);
        Due.due("at 1", x.ball(2), 1);
        broken("ten steps", x, 1, 1, 1);
        x = narrow(1, 0);
        Due.due("one yard: its own gate", x.days(1), 1);
        Due.due("at 0", x.ball(2), 0);
        broken("one yard", x, 1);
        x = narrow(1, 9);
        Due.due("one yard, ten steps", x.days(1), 1);
        broken("one yard, ten steps", x, 1);
        x = narrow(2, -1);
        Due.due("no step, no gate", x.days(1), 0);
        broken("no step", x, 0, 0);
    }

    private static void stepsBack() {
        Due.says(0, "below 0 back, to the one ahead, through the GATE of the one that it comes to");
        SnowOwed x = narrow(4, -2);
        Due.due("from the first", x.days(1), 1);
        Due.due("to the last", x.ball(2), 3);
        broken("from the first", x, 0, 0, 0, 1);
        x = narrow(4, -2);
        x.at(3);
        Due.due("from the last", x.days(1), 1);
        Due.due("to the one ahead", x.ball(2), 2);
        broken("from the last", x, 0, 0, 1, 0);
        x = narrow(4, -4);
        x.at(1);
        Due.due("three back", x.days(1), 3);
        Due.due("at 2", x.ball(2), 2);
        broken("three back", x, 1, 0, 1, 1);
        x = narrow(3, -9);
        Due.due("eight back", x.days(1), 3);
        Due.due("at 1", x.ball(2), 1);
        x = narrow(1, -9);
        Due.due("one yard", x.days(1), 1);
        Due.due("at 0", x.ball(2), 0);
    }

    private static void sizeAboveGate() {
        Due.says(0, "if SIZE is above that GATE, the GATE is BROKEN once more and becomes SIZE");
        int[][] due = { // kilos, gate: broken, gate then
            {60, 5, 1, 6}, {50, 5, 0, 5}, {59, 5, 0, 5}, {49, 5, 0, 5}, {9, 1, 0, 1}, {10, 1, 0, 1}, {20, 1, 1, 2}};
        for (int[] d : due) {
            for (int move : new int[] {0, -2}) {
                SnowOwed x = Due.still();
                x.yard(0, 0, d[1]);
                x.pack(0, d[0]);
                x.rule(2, move);
                Due.due(d[0] + " kilos, gate " + d[1], x.days(1), d[2]);
                Due.due("broken", x.told(0, 3), d[2]);
                Due.due("gate", x.told(0, 2), d[3]);
                Due.due("as wide as it is it breaks no more", x.days(3), 0);
            }
        }
        SnowOwed x = bare(1);
        Due.text(x, "size 9999");
        Due.due("999 is not above 999", x.days(1), 0);
        x.set(0, 2, 998);
        Due.due("but above 998", x.days(1), 1);
        Due.due("999", x.told(0, 2), 999);
    }

    private static void sizeIsThatOfThen() {
        Due.says(0, "(3) THE BALL takes as many steps");
        SnowOwed x = Due.still();
        x.yard(0, 0, 5);
        x.pack(0, 60);
        thaw(x, 1);
        Due.due("the thaw comes first: size 5", x.told(0, 3), 0);
        x = Due.still();
        x.yard(0, 2, 5);
        x.pack(0, 59);
        Due.due("what is given counts: size 6", x.days(1), 1);
        x = Due.still();
        x.yard(0, 0, 5);
        x.rule(1, 99);
        x.pack(0, 59);
        Due.due("what falls does not", x.days(1), 0);
    }

    private static void snowFalls() {
        Due.says(0, "(4) SNOW of each YARD is FALL more (999 at most)");
        int[][] due = {{0, 0, 0}, {0, 99, 99}, {999, 0, 999}, {999, 1, 999}, {998, 1, 999}, {998, 2, 999}, {900, 99, 999},
            {899, 99, 998}, {901, 99, 999}};
        for (int[] d : due) {
            SnowOwed x = new SnowOwed();
            x.yard(5, 0, 999);
            x.yard(0, d[0], 999);
            x.rule(1, d[1]);
            x.days(1);
            Due.due("snow " + d[0] + ", fall " + d[1], x.told(1, 1), d[2]);
            Due.due("on the first too", x.told(0, 1), d[1]);
        }
        SnowOwed x = new SnowOwed();
        x.rule(1, 99);
        x.yard(0, 999, 999);
        x.days(1);
        Due.due("behind what it gave: 999 less 499 and 99", x.told(0, 1), 599);
    }

    private static void dayIsOneMore() {
        Due.says(0, "THE DAY is 1 more");
        SnowOwed x = bare(1);
        x.days(1);
        Due.due("1", x.count(1), 1);
        x.days(100);
        Due.due("101", x.count(1), 101);
    }

    private static void sixThings() {
        Due.says(0, "THINGS 0 .. 5: each NOWHERE (at first), IN a LAYER, or OUT at a YARD");
        SnowOwed x = bare(1);
        x.pack(0, 1);
        for (int thing : new int[] {Due.LEAST, -1, 6, Due.MOST}) {
            Due.due("lose " + thing, x.lose(thing), Due.BAD);
            Due.due("find " + thing, x.find(thing), Due.BAD);
            Due.due("thing " + thing, x.thing(thing), Due.BAD);
        }
        for (int thing = 0; thing <= 5; thing++) {
            Due.due("nowhere at first", x.thing(thing), Due.NONE);
            Due.due("lose", x.lose(thing), 0);
            Due.due("in a layer", x.thing(thing), 0);
        }
        thaw(x, 1);
        for (int thing = 0; thing <= 5; thing++) {
            Due.due("out at a yard", x.thing(thing), 100);
        }
    }

    private static void thingsComeOut() {
        Due.says(0, "(there must be one); if its LAYER is no more, it is OUT at the YARD where THE BALL is then (ahead of (2), (3))");
        Due.due("there must be one", bare(1).lose(0), Due.NO);
        SnowOwed x = threeLayers();
        x.at(1);
        thaw(x, 1);
        Due.due("a kilo is left", x.thing(2), 2);
        x.at(1);
        thaw(x, 1);
        Due.due("nothing is left", x.thing(2), 101);
        Due.due("the ball went on", x.ball(2), 2);
        Due.due("the next is in still", x.thing(1), 1);
        x.at(0);
        x.set(0, 1, 40);
        thaw(x, 3);
        Due.due("out ahead of what is given", x.thing(1), 100);
        Due.due("though there is a layer of that number again", x.ball(3), 1);
        x.pack(1, 2);
        Due.due("and now", x.ball(3), 2);
        Due.due("it is out still", x.thing(1), 100);
        Due.due("put in again", x.lose(1), 1);
        x.at(2);
        thaw(x, 99);
        Due.due("out elsewhere", x.thing(1), 102);
        Due.due("the innermost too", x.thing(0), 102);
        Due.due("what is out stays there", x.thing(2), 101);
        SnowOwed last = bare(10);
        last.pack(0, 1);
        last.lose(5);
        last.at(9);
        thaw(last, 1);
        Due.due("at the last yard", last.thing(5), 109);
        SnowOwed same = bare(1);
        same.set(0, 1, 4);
        same.pack(0, 1);
        same.lose(3);
        thaw(same, 1);
        Due.due("its layer was no more for a while", same.thing(3), 100);
        Due.due("another one is there", same.ball(3), 1);
    }

    private static void zWraps() {
        Due.says(0, "z is told (1 at first)");
        Due.due("at first", new SnowOwed().count(10), 1);
        Due.says(0, "A draw: z becomes z * 1103515245 + 12345 (an int); it gives z >>> 8");
        for (int seed : new int[] {0, 1, -1, Due.LEAST, Due.MOST, 123456789}) {
            SnowOwed x = bare(1);
            x.seed(seed);
            x.rule(0, 99);
            x.pack(0, 200);
            x.days(1);
            long wide = seed * 1103515245L + 12345L;
            Due.due("z behind " + seed, x.count(10), (int) wide);
            Due.due("x of " + seed, x.ball(4), ((wide & 0xffffffffL) >> 8) % 100);
        }
    }

    private static void drawnYards() {
        Due.says(0, "YARDS that are drawn: KIND the rest of a draw by 6, SNOW that of one more by 200, GATE 1 and that of one more by 100");
        int kinds = 0;
        int leastSnow = 999;
        int mostSnow = 0;
        int leastGate = 999;
        int mostGate = 0;
        for (int seed = 0; seed < 300; seed++) {
            SnowOwed x = new SnowOwed();
            x.seed(seed);
            x.deal(10);
            for (int i = 0; i < 10; i++) {
                kinds |= 1 << x.told(i, 0);
                leastSnow = Math.min(leastSnow, x.told(i, 1));
                mostSnow = Math.max(mostSnow, x.told(i, 1));
                leastGate = Math.min(leastGate, x.told(i, 2));
                mostGate = Math.max(mostGate, x.told(i, 2));
            }
        }
        Due.due("all six kinds", kinds, 63);
        Due.due("least snow", leastSnow, 0);
        Due.due("most snow", mostSnow, 199);
        Due.due("least gate", leastGate, 1);
        Due.due("most gate", mostGate, 100);
    }

    private static void rules() {
        Due.says(9, "WARM (what 0), FALL (1), the move m (2; -9 .. 9) becomes v: what it was");
        SnowOwed x = new SnowOwed();
        Due.due("-9", x.rule(2, -9), 0);
        Due.due("9", x.rule(2, 9), -9);
        Due.due("is 9", x.count(4), 9);
        Due.due("warm is as it was", x.count(2), 5);
        Due.due("fall is as it was", x.count(3), 3);
        Due.says(9, "BAD");
        for (int v : new int[] {Due.LEAST, -10, 10, Due.MOST}) {
            Due.due("move " + v, x.rule(2, v), Due.BAD);
        }
        Due.due("move stays", x.count(4), 9);
        for (int what : new int[] {Due.LEAST, -1, 3, Due.MOST}) {
            Due.due("rule " + what, x.rule(what, 0), Due.BAD);
        }
        Due.due("a move is no warm", x.rule(0, -9), Due.BAD);
        Due.due("nor a fall", x.rule(1, -9), Due.BAD);
    }

    private static void places() {
        Due.says(10, "THE BALL is AT a YARD from now on: where it was");
        SnowOwed x = bare(3);
        Due.due("at the last", x.at(2), 0);
        Due.due("where it is already", x.at(2), 2);
        Due.due("at the first", x.at(0), 2);
        Due.says(10, "BAD");
        for (int yard : new int[] {Due.LEAST, -1, 3, Due.MOST}) {
            Due.due("at " + yard, x.at(yard), Due.BAD);
        }
        Due.due("no yards", new SnowOwed().at(0), Due.BAD);
    }

    private static void ofTheBall() {
        Due.says(11, "Of THE BALL: what 0 WEIGHT, 1 SIZE, 2 where it is AT, 3 how many LAYERS, 4 GONE");
        SnowOwed x = threeLayers();
        x.pack(1, 91);
        x.at(2);
        thaw(x, 1);
        x.at(1);
        int[] due = {100, 10, 1, 4, 1};
        for (int what = 0; what <= 4; what++) {
            Due.due("ball " + what, x.ball(what), due[what]);
        }
        Due.says(11, "BAD");
        for (int what : new int[] {Due.LEAST, -1, 5, Due.MOST}) {
            Due.due("ball " + what, x.ball(what), Due.BAD);
        }
    }

    private static void ofALayer() {
        Due.says(12, "Of a LAYER: what 0 its YARD, 1 KILOS");
        SnowOwed x = threeLayers();
        Due.due("yard of the outermost", x.layer(2, 0), 0);
        Due.due("yard", x.layer(1, 0), 1);
        Due.due("kilos", x.layer(1, 1), 3);
        Due.says(12, "BAD");
        for (int layer : new int[] {Due.LEAST, -1, 3, 29, 30, Due.MOST}) {
            Due.due("layer " + layer, x.layer(layer, 0), Due.BAD);
        }
        for (int what : new int[] {Due.LEAST, -1, 2, Due.MOST}) {
            Due.due("what " + what, x.layer(0, what), Due.BAD);
        }
        Due.due("no layers", bare(1).layer(0, 0), Due.BAD);
    }

    private static void packs() {
        Due.says(13, "So many KILOS (1 .. 999) are laid around THE BALL as of a YARD (as one GIVES; SNOW stays): WEIGHT then");
        SnowOwed x = bare(3);
        x.set(2, 1, 7);
        Due.due("1", x.pack(2, 1), 1);
        Due.due("999", x.pack(2, 999), 1000);
        Due.due("one layer", x.ball(3), 1);
        Due.due("another yard", x.pack(0, 1), 1001);
        Due.due("another layer", x.ball(3), 2);
        Due.due("snow stays", x.told(2, 1), 7);
        Due.due("where it is", x.ball(2), 0);
        Due.says(13, "BAD");
        for (int kilos : new int[] {Due.LEAST, -1, 0, 1000, Due.MOST}) {
            Due.due("pack " + kilos, x.pack(0, kilos), Due.BAD);
        }
        for (int yard : new int[] {Due.LEAST, -1, 3, Due.MOST}) {
            Due.due("pack of " + yard, x.pack(yard, 1), Due.BAD);
        }
        Due.due("no yards", new SnowOwed().pack(0, 1), Due.BAD);
    }

    private static void losing() {
        SnowOwed x = bare(2);
        Due.says(14, "BAD: thing; NO: there is no LAYER");
        Due.due("no layer", x.lose(0), Due.NO);
        Due.due("nor for the last", x.lose(5), Due.NO);
        Due.due("bad ahead of it", x.lose(6), Due.BAD);
        Due.due("bad below", x.lose(-1), Due.BAD);
        Due.due("it is nowhere still", x.thing(0), Due.NONE);
        Due.due("no layers without yards", new SnowOwed().lose(0), Due.NO);
        Due.says(14, "A THING is put IN the outermost LAYER: its number");
        for (int i = 0; i < 31; i++) {
            x.pack(i % 2, 1);
            Due.due("the outermost", x.lose(5), Math.min(29, i));
        }
    }

    private static void finding() {
        Due.says(15, "A THING is NOWHERE from now on: 0 if it was NOWHERE already, else 1");
        SnowOwed x = threeLayers();
        Due.due("in a layer", x.find(0), 1);
        Due.due("nowhere", x.find(0), 0);
        Due.due("never lost", x.find(5), 0);
        thaw(x, 2);
        Due.due("out at yard 0", x.thing(2), 100);
        Due.due("out at a yard", x.find(2), 1);
        Due.due("nowhere", x.thing(2), Due.NONE);
        thaw(x, 99);
        Due.due("what is found comes out no more", x.thing(0), Due.NONE);
        Due.says(15, "BAD");
        Due.due("find 6", x.find(6), Due.BAD);
        Due.due("find -1", x.find(-1), Due.BAD);
    }

    private static void whereThingsAre() {
        Due.says(16, "Where a THING is: a LAYER; 100 and the YARD at which it is OUT");
        SnowOwed x = threeLayers();
        Due.due("the innermost layer", x.thing(0), 0);
        Due.due("the outermost", x.thing(2), 2);
        thaw(x, 2);
        Due.due("100 and 0", x.thing(2), 100);
        Due.says(16, "BAD; NONE: NOWHERE");
        Due.due("nowhere", x.thing(5), Due.NONE);
        Due.due("thing 6", x.thing(6), Due.BAD);
        Due.due("thing -1", x.thing(-1), Due.BAD);
    }

    private static void days() {
        Due.says(17, "n (1 .. 100) DAYS (no more than up to 9999): how many GATES were BROKEN in them");
        SnowOwed x = new SnowOwed();
        Due.toDay(x, 9898);
        x.yard(0, 0, 999);
        int z = x.count(10);
        x.days(100);
        Due.due("up to 9998", x.count(1), 9998);
        for (int i = 0; i < 100; i++) {
            z = Due.drawn(z);
        }
        Due.due("a hundred draws", x.count(10), z);
        x.rule(0, 0);
        x.pack(0, 30);
        x.set(0, 2, 1);
        Due.due("one day of a hundred, one gate", x.days(100), 1);
        Due.due("9999", x.count(1), 9999);
        Due.due("one draw", x.count(10), Due.drawn(z));
        x.set(0, 2, 1);
        Due.due("no day, no gate", x.days(1), 0);
        Due.due("the gate is narrow still", x.told(0, 2), 1);
        SnowOwed twice = Due.still();
        twice.rule(2, 1);
        twice.yard(0, 999, 1);
        twice.yard(0, 999, 1);
        Due.due("each gate once, then each once more", twice.days(2), 4);
        Due.says(17, "BAD");
        for (int n : new int[] {Due.LEAST, -1, 0, 101, Due.MOST}) {
            Due.due("days " + n, x.days(n), Due.BAD);
            Due.due("days " + n + " without yards", new SnowOwed().days(n), Due.BAD);
        }
    }
}
