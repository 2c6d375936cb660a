/** Promises 9 to 17: the ball, its layers, things, days. */
public final class BallTest {
    public static void main(String[] args) {
        rules();
        places();
        layers();
        thirtyLayers();
        things();
        thawing();
        thawInStraw();
        giving();
        steps();
        stepsBack();
        oneYard();
        falling();
        sizes();
        bounds();
        Due.end();
    }

    private static void rules() {
        SnowOwed x = new SnowOwed();
        Due.due("warm 99", x.rule(0, 99), 5);
        Due.due("warm 0", x.rule(0, 0), 99);
        Due.due("warm -1", x.rule(0, -1), Due.BAD);
        Due.due("warm 100", x.rule(0, 100), Due.BAD);
        Due.due("fall 99", x.rule(1, 99), 3);
        Due.due("fall 0", x.rule(1, 0), 99);
        Due.due("fall -1", x.rule(1, -1), Due.BAD);
        Due.due("fall 100", x.rule(1, 100), Due.BAD);
        Due.due("move -9", x.rule(2, -9), 0);
        Due.due("move 9", x.rule(2, 9), -9);
        Due.due("move -10", x.rule(2, -10), Due.BAD);
        Due.due("move 10", x.rule(2, 10), Due.BAD);
        Due.due("rule -1", x.rule(-1, 0), Due.BAD);
        Due.due("rule 3", x.rule(3, 0), Due.BAD);
        Due.due("warm", x.count(2), 0);
        Due.due("fall", x.count(3), 0);
        Due.due("move", x.count(4), 9);
    }

    private static void places() {
        SnowOwed x = new SnowOwed();
        Due.due("at without yards", x.at(0), Due.BAD);
        x.yard(0, 1, 1);
        x.yard(0, 1, 1);
        Due.due("at 1", x.at(1), 0);
        Due.due("at 0", x.at(0), 1);
        Due.due("at -1", x.at(-1), Due.BAD);
        Due.due("at 2", x.at(2), Due.BAD);
        Due.due("where", x.ball(2), 0);
        Due.due("ball -1", x.ball(-1), Due.BAD);
        Due.due("ball 5", x.ball(5), Due.BAD);
    }

    private static void layers() {
        SnowOwed x = new SnowOwed();
        Due.due("pack without yards", x.pack(0, 1), Due.BAD);
        x.yard(0, 50, 1);
        x.yard(0, 1, 1);
        Due.due("pack 1", x.pack(0, 1), 1);
        Due.due("pack 999", x.pack(0, 999), 1000);
        Due.due("one layer", x.ball(3), 1);
        Due.due("pack of another yard", x.pack(1, 4), 1004);
        Due.due("pack of the first again", x.pack(0, 6), 1010);
        Due.due("three layers", x.ball(3), 3);
        Due.due("pack 0", x.pack(0, 0), Due.BAD);
        Due.due("pack 1000", x.pack(0, 1000), Due.BAD);
        Due.due("pack at -1", x.pack(-1, 1), Due.BAD);
        Due.due("pack at 2", x.pack(2, 1), Due.BAD);
        Due.due("snow stays", x.told(0, 1), 50);
        Due.due("layer 0, yard", x.layer(0, 0), 0);
        Due.due("layer 0, kilos", x.layer(0, 1), 1000);
        Due.due("layer 1, yard", x.layer(1, 0), 1);
        Due.due("layer 2, kilos", x.layer(2, 1), 6);
        Due.due("layer -1", x.layer(-1, 0), Due.BAD);
        Due.due("layer 3", x.layer(3, 0), Due.BAD);
        Due.due("layer, what -1", x.layer(0, -1), Due.BAD);
        Due.due("layer, what 2", x.layer(0, 2), Due.BAD);
        Due.due("size", x.ball(1), 101);
    }

    private static void thirtyLayers() {
        SnowOwed x = Due.still();
        x.yard(0, 100, 999);
        x.yard(0, 0, 999);
        for (int i = 0; i < 30; i++) {
            Due.due("pack", x.pack(i % 2, 2), 2 * i + 2);
        }
        Due.due("thirty", x.ball(3), 30);
        Due.due("pack on thirty", x.pack(0, 5), 65);
        Due.due("still thirty", x.ball(3), 30);
        Due.due("outermost is more", x.layer(29, 1), 7);
        Due.due("outermost is of the other yard", x.layer(29, 0), 1);
        x.days(1);
        Due.due("what is given too", x.layer(29, 1), 57);
        Due.due("snow is less", x.told(0, 1), 50);
    }

    private static void things() {
        SnowOwed x = new SnowOwed();
        x.yard(0, 0, 999);
        x.yard(0, 0, 999);
        Due.due("lose without a layer", x.lose(0), Due.NO);
        Due.due("bad ahead of no", x.lose(6), Due.BAD);
        x.pack(0, 3);
        x.pack(1, 3);
        x.pack(0, 3);
        Due.due("lose 0: the layer's number", x.lose(0), 2);
        Due.due("where 0", x.thing(0), 2);
        x.pack(1, 1);
        Due.due("lose 5", x.lose(5), 3);
        Due.due("lose -1", x.lose(-1), Due.BAD);
        Due.due("lose 0 again", x.lose(0), 3);
        Due.due("where 0", x.thing(0), 3);
        Due.due("where 1", x.thing(1), Due.NONE);
        Due.due("where -1", x.thing(-1), Due.BAD);
        Due.due("where 6", x.thing(6), Due.BAD);
        Due.due("find 1", x.find(1), 0);
        Due.due("find 5", x.find(5), 1);
        Due.due("find 5 again", x.find(5), 0);
        Due.due("where 5", x.thing(5), Due.NONE);
        Due.due("find -1", x.find(-1), Due.BAD);
        Due.due("find 6", x.find(6), Due.BAD);
    }

    private static void thawing() {
        SnowOwed x = new SnowOwed();
        x.rule(1, 0);
        x.yard(0, 0, 999);
        x.yard(0, 0, 999);
        x.pack(0, 10);
        x.lose(0);
        x.pack(1, 4);
        x.lose(1);
        x.pack(0, 3);
        x.lose(2);
        x.rule(0, 9);
        x.at(1);
        x.seed(Due.seedFor(8, 10));
        x.days(1);
        Due.due("weight", x.ball(0), 9);
        Due.due("gone", x.ball(4), 8);
        Due.due("one layer", x.ball(3), 1);
        Due.due("of nine", x.layer(0, 1), 9);
        Due.due("still in", x.thing(0), 0);
        Due.due("out where the ball was, not where it went", x.thing(1), 101);
        Due.due("out likewise", x.thing(2), 101);
        Due.due("went on", x.ball(2), 0);
        x.seed(Due.seedFor(3, 10));
        x.days(1);
        Due.due("less", x.ball(0), 6);
        x.pack(1, 4);
        x.seed(Due.seedFor(3, 10));
        x.days(1);
        Due.due("a kilo is a layer still", x.layer(1, 1), 1);
        x.seed(Due.seedFor(1, 10));
        x.days(1);
        Due.due("no kilo is none", x.ball(3), 1);
        x.at(1);
        x.rule(0, 99);
        x.seed(Due.seedFor(99, 100));
        x.days(1);
        Due.due("nothing is left", x.ball(0), 0);
        Due.due("no layer", x.ball(3), 0);
        Due.due("gone is what was there", x.ball(4), 21);
        Due.due("out at 1", x.thing(0), 101);
        int z = x.count(10);
        x.days(1);
        Due.due("a draw though nothing is there", x.count(10), Due.drawn(z));
        Due.due("found at a yard", x.find(0), 1);
        Due.due("nowhere", x.thing(0), Due.NONE);
    }

    private static void thawInStraw() {
        SnowOwed x = new SnowOwed();
        x.rule(1, 0);
        x.yard(5, 100, 999);
        x.pack(0, 50);
        x.rule(0, 9);
        x.seed(Due.seedFor(9, 10));
        x.days(1);
        Due.due("half, cut", x.ball(0), 46);
        Due.due("straw gives nothing", x.told(0, 1), 100);
    }

    private static void giving() {
        SnowOwed x = Due.still();
        x.yard(0, 101, 999);
        x.yard(4, 30, 999);
        x.yard(0, 1, 999);
        Due.due("days", x.days(1), 0);
        Due.due("half was given", x.told(0, 1), 51);
        Due.due("weight", x.ball(0), 50);
        Due.due("at 1", x.ball(2), 1);
        x.days(1);
        Due.due("all was given", x.told(1, 1), 0);
        Due.due("two layers", x.ball(3), 2);
        Due.due("of yard 1", x.layer(1, 0), 1);
        x.days(1);
        Due.due("nothing given, no layer", x.ball(3), 2);
        Due.due("at 0", x.ball(2), 0);
        x.rule(2, -1);
        x.days(2);
        Due.due("the same layer is more", x.ball(3), 3);
        Due.due("25 and 13", x.layer(2, 1), 38);
        Due.due("at 0 still", x.ball(2), 0);
    }

    private static void steps() {
        SnowOwed x = Due.still();
        for (int i = 0; i < 4; i++) {
            x.yard(i == 0 ? 3 : 0, 0, 5 + 10 * i);
        }
        x.pack(0, 200);
        Due.due("two gates", x.days(1), 2);
        Due.due("at 2", x.ball(2), 2);
        Due.due("gate 0 is left", x.told(0, 2), 20);
        Due.due("gate 1 is left", x.told(1, 2), 20);
        Due.due("gate 2 is not", x.told(2, 2), 25);
        Due.due("broken 0", x.told(0, 3), 1);
        Due.due("broken 2", x.told(2, 3), 0);
        Due.due("size is not above 25", x.days(1), 0);
        x.pack(0, 60);
        x.at(0);
        x.rule(2, 9);
        Due.due("round and round: each once", x.days(1), 3);
        Due.due("eleven steps", x.ball(2), 3);
        Due.due("gate 3 was wide", x.told(3, 2), 35);
        Due.due("broken twice", x.told(0, 3), 2);
        Due.due("of all", x.count(5), 5);
    }

    private static void stepsBack() {
        SnowOwed x = Due.still();
        for (int i = 0; i < 4; i++) {
            x.yard(0, 0, 5);
        }
        x.pack(0, 80);
        x.rule(2, -1);
        Due.due("no step", x.days(1), 0);
        Due.due("at 0", x.ball(2), 0);
        x.rule(2, -3);
        Due.due("two back", x.days(1), 2);
        Due.due("at 2", x.ball(2), 2);
        Due.due("gate 3 it came to", x.told(3, 3), 1);
        Due.due("gate 2 it came to", x.told(2, 3), 1);
        Due.due("gate 0 it left", x.told(0, 3), 0);
        Due.due("gate 1", x.told(1, 3), 0);
        Due.due("gate 2 is as wide as the ball", x.told(2, 2), 8);
        x.rule(2, -2);
        Due.due("one back", x.days(1), 1);
        Due.due("at 1", x.ball(2), 1);
        Due.due("one more", x.days(1), 1);
        Due.due("at 0", x.ball(2), 0);
        Due.due("and round", x.days(1), 0);
        Due.due("at 3", x.ball(2), 3);
    }

    private static void oneYard() {
        SnowOwed x = Due.still();
        x.yard(0, 0, 5);
        x.pack(0, 100);
        Due.due("through its own gate", x.days(1), 1);
        Due.due("at 0", x.ball(2), 0);
        x.pack(0, 100);
        x.rule(2, -2);
        Due.due("and back through it", x.days(1), 1);
        Due.due("at 0 still", x.ball(2), 0);
        Due.due("as wide as the ball", x.told(0, 2), 20);
    }

    private static void falling() {
        SnowOwed x = new SnowOwed();
        x.rule(0, 0);
        x.rule(1, 7);
        x.yard(5, 990, 1);
        x.yard(0, 4, 1);
        x.days(1);
        Due.due("fall", x.told(0, 1), 997);
        Due.due("fall", x.told(1, 1), 11);
        x.at(0);
        x.days(1);
        Due.due("999 at most", x.told(0, 1), 999);
        Due.due("fall", x.told(1, 1), 18);
        Due.due("of all", x.count(6), 1017);
        SnowOwed ten = new SnowOwed();
        for (int i = 0; i < 10; i++) {
            ten.yard(5, 10, 9);
        }
        ten.days(1);
        Due.due("on ten yards", ten.count(6), 130);
        Due.due("none of ten is broken", ten.count(5), 0);
    }

    private static void sizes() {
        SnowOwed x = Due.still();
        x.yard(0, 0, 998);
        Due.due("no weight", x.ball(1), 0);
        x.pack(0, 9);
        Due.due("below ten", x.ball(1), 0);
        for (int i = 0; i < 10; i++) {
            x.pack(0, 999);
        }
        Due.due("9999 / 10", x.ball(1), 999);
        x.pack(0, 999);
        Due.due("999 at most", x.ball(1), 999);
        Due.due("broken", x.days(1), 1);
        Due.due("gate 999", x.told(0, 2), 999);
        Due.due("no more", x.days(100), 0);
        Due.text(x, "size l+w-9999-9999");
        Due.due("held at 0", x.ball(1), 0);
        Due.text(x, "size l*7");
        Due.due("one layer", x.ball(1), 7);
    }

    private static void bounds() {
        SnowOwed x = new SnowOwed();
        Due.due("days 0", x.days(0), Due.BAD);
        Due.due("days 101", x.days(101), Due.BAD);
        int z = x.count(10);
        for (int i = 0; i < 99; i++) {
            Due.due("without yards no gates", x.days(100), 0);
        }
        Due.due("without yards no draws", x.count(10), z);
        Due.due("the day", x.count(1), 9900);
        x.yard(0, 0, 1);
        x.days(98);
        Due.due("the day", x.count(1), 9998);
        z = x.count(10);
        Due.due("no more than 9999", x.days(3), 0);
        Due.due("the last day", x.count(1), 9999);
        Due.due("one draw for one day", x.count(10), Due.drawn(z));
        Due.due("none behind the last", x.days(100), 0);
        Due.due("the last day still", x.count(1), 9999);
        Due.due("no draw then", x.count(10), Due.drawn(z));
    }
}
