/** Promises 38 to 42 and what the fifth part of the terms says of them, at their edges, sentence by sentence. */
public final class RowsEdgesTest {
    public static void main(String[] args) {
        imageKeepsAllBut();
        againAndAgain();
        daysTold();
        tells();
        noneWaitThen();
        daysOfN();
        fewerDays();
        firstThatIsNot();
        refusedChecks();
        keeps();
        backs();
        counts();
        as512Calls();
        Due.end();
    }

    private static SnowOwed dealt() {
        SnowOwed x = new SnowOwed();
        x.seed(41);
        x.deal(5);
        x.days(3);
        return x;
    }

    /** How the village that an image keeps is otherwise, each way by itself. */
    private static void spoil(SnowOwed x, int how) {
        switch (how) {
            case 0: x.yard(0, 1, 1); break;
            case 1: x.turns(0, (x.told(0, 0) + 1) % 6); break;
            case 2: x.set(0, 1, 77); break;
            case 3: x.set(0, 2, 777); break;
            case 4: x.seed(12); break;
            case 5: x.rule(0, 55); break;
            case 6: x.rule(1, 55); break;
            case 7: x.rule(2, 5); break;
            case 8: x.at((x.ball(2) + 1) % 3); break;
            case 9: x.pack(1, 5); break;
            case 10: x.lose(2); break;
            case 11: x.find(1); break;
            case 12: x.days(1); break;
            case 13: x.days(60); break;
            case 14: Due.text(x, "size 8"); break;
            case 15: Due.text(x, "give 3"); break;
            case 16: Due.text(x, "fine 4"); break;
            default: x.deal(7); break;
        }
    }

    private static void imageKeepsAllBut() {
        Due.says(0, "AN IMAGE keeps all but SHEETS, SLOTS, numbers that wait, THE TAPE");
        for (int how = 0; how <= 17; how++) {
            SnowOwed x = Whole.rich();
            x.trim(0);
            x.keep();
            SnowOwed same = Whole.rich();
            same.trim(0);
            same.keep();
            spoil(x, how);
            x.back();
            x.tell(0);
            same.tell(0);
            Due.isTrue("spoilt by " + how + ", all is as it was", Whole.of(x).equals(Whole.of(same)));
        }
        SnowOwed x = dealt();
        x.sheet(0, 1, 2);
        x.lay(0, 3, 6);
        x.tell(1);
        x.feed(1, 2, 3);
        x.keep();
        x.mark(0, 0, 9);
        x.sheet(1, 0, 1);
        x.lay(0, 3, 7);
        x.lay(1, 1, 0);
        x.tell(2);
        x.trim(5);
        x.back();
        x.lay(4, 2, 0);
        Due.due("a sheet is as it is", x.item(4, 0), 9);
        Due.due("another one is there", x.mark(1, 0, 1), 1);
        Due.due("a slot is as it is", x.rest(0, 10), 7);
        Due.isTrue("another one holds", x.ask(1, 0) != Due.NOTHING);
        Due.due("two wait", x.count(8), 2);
        Due.due("five bytes", x.count(9), 5);
    }

    private static void againAndAgain() {
        Due.says(0, "all can become as it is (again and again)");
        SnowOwed x = dealt();
        x.keep();
        int z = x.count(10);
        int weight = x.ball(0);
        for (int i = 0; i < 5; i++) {
            x.days(1 + i);
            x.deal(1);
            Due.isTrue("otherwise", x.count(10) != z);
            Due.due("back", x.back(), 5);
            Due.due("z", x.count(10), z);
            Due.due("weight", x.ball(0), weight);
            Due.due("back on itself", x.back(), 5);
        }
        x.days(2);
        x.keep();
        x.days(1);
        x.back();
        Due.due("the image that was kept last", x.count(1), 5);
        SnowOwed owners = Due.still();
        owners.keep();
        owners.yard(0, 0, 9);
        owners.yard(0, 0, 9);
        owners.pack(0, 1);
        owners.pack(1, 2);
        owners.lose(3);
        owners.keep();
        owners.rule(0, 99);
        owners.seed(Due.seedFor(99, 100));
        owners.days(1);
        owners.pack(1, 8);
        owners.pack(0, 9);
        owners.back();
        Due.due("the innermost is of yard 0 again", owners.layer(0, 0), 0);
        Due.due("one kilo", owners.layer(0, 1), 1);
        Due.due("the outermost is of yard 1 again", owners.layer(1, 0), 1);
        Due.due("two kilos", owners.layer(1, 1), 2);
        Due.due("the thing is in it again", owners.thing(3), 1);
        Due.due("nothing is gone", owners.ball(4), 0);
    }

    private static void tellDays(SnowOwed x, int n) {
        for (int day = 1; day <= n; day++) {
            x.tell(x.behind(day, 0));
            x.tell(x.behind(day, 1));
        }
    }

    private static void daysTold() {
        Due.says(0, "THE DAYS TOLD: of n DAYS, one behind the other, by THE IMAGE: WEIGHT; where THE BALL is AT, behind each");
        SnowOwed x = Due.still();
        x.yard(0, 100, 999);
        x.yard(0, 100, 999);
        x.keep();
        x.days(40);
        x.rule(0, 99);
        int[] told = {50, 1, 100, 0, 125, 1};
        for (int v : told) {
            x.tell(v);
        }
        Due.due("by hand", x.check(3), 0);
        Due.due("it was only thought", x.count(1), 40);
        x.tell(1);
        x.tell(50);
        Due.due("not the other way round", x.check(1), 1);
        SnowOwed none = new SnowOwed();
        none.keep();
        none.tell(0);
        none.tell(0);
        Due.due("without yards", none.check(1), 0);
    }

    private static void tells() {
        Due.says(38, "One more number waits: how many");
        SnowOwed x = new SnowOwed();
        for (int i = 1; i <= 60; i++) {
            Due.due("tell", x.tell(i % 2 == 0 ? Due.LEAST : Due.MOST), i);
        }
        Due.says(38, "FULL: 60 wait");
        Due.due("one more", x.tell(0), Due.FULL);
        Due.due("60 still", x.count(8), 60);
        x.check(1);
        Due.due("the first again", x.tell(0), 1);
    }

    private static void noneWaitThen() {
        Due.says(39, "The numbers that wait (none do then, whatever is answered)");
        SnowOwed x = dealt();
        x.tell(1);
        Due.due("no image", x.check(1), Due.NO);
        Due.due("none wait", x.count(8), 0);
        x.tell(1);
        Due.due("bad", x.check(0), Due.BAD);
        Due.due("none wait", x.count(8), 0);
        x.keep();
        x.tell(-1);
        Due.due("not right", x.check(1), 1);
        Due.due("none wait", x.count(8), 0);
        tellDays(x, 1);
        Due.due("right", x.check(1), 0);
        Due.due("none wait", x.count(8), 0);
        tellDays(x, 2);
        Due.due("too many", x.check(1), 3);
        Due.due("none wait", x.count(8), 0);
    }

    private static void daysOfN() {
        Due.says(39, "are THE DAYS TOLD of n (1 .. 30");
        for (int n : new int[] {1, 2, 29, 30}) {
            SnowOwed x = dealt();
            x.keep();
            tellDays(x, n);
            Due.due("days " + n, x.check(n), 0);
        }
    }

    private static void fewerDays() {
        Due.says(39, "fewer, if THE DAY would be above 9999), two by two: 0");
        SnowOwed x = dealt();
        Due.toDay(x, 9998);
        x.keep();
        tellDays(x, 1);
        Due.due("one day of one", x.check(1), 0);
        tellDays(x, 1);
        Due.due("one day of two", x.check(2), 0);
        tellDays(x, 1);
        Due.due("one day of thirty", x.check(30), 0);
        tellDays(x, 2);
        Due.due("a day too many", x.check(2), 3);
        x.days(1);
        Due.due("the image's day counts, not this", x.check(30), 1);
        x.keep();
        Due.due("no day, no numbers", x.check(30), 0);
        x.tell(x.behind(1, 0));
        Due.due("no day, a number", x.check(30), 1);
    }

    private static void firstThatIsNot() {
        Due.says(39, "else 1 and how many stand right ahead of the first that is not (or is missing, or one too many)");
        for (int wrong = 0; wrong < 60; wrong++) {
            SnowOwed x = dealt();
            x.keep();
            for (int i = 0; i < 60; i++) {
                x.tell(x.behind(1 + i / 2, i % 2) + (i == wrong ? 1 : 0));
            }
            Due.due("number " + wrong + " is not", x.check(30), 1 + wrong);
        }
        SnowOwed x = dealt();
        x.keep();
        for (int many = 0; many < 8; many++) {
            for (int i = 0; i < many; i++) {
                x.tell(x.behind(1 + i / 2, i % 2));
            }
            Due.due(many + " of 8", x.check(4), 1 + many);
        }
        for (int many = 3; many <= 6; many++) {
            for (int i = 0; i < many; i++) {
                x.tell(x.behind(1 + i / 2, i % 2));
            }
            Due.due(many + " of 2", x.check(1), 3);
        }
        tellDays(x, 1);
        x.tell(-1);
        x.tell(-1);
        Due.due("what is too many may be anything", x.check(1), 3);
        x.tell(-1);
        tellDays(x, 3);
        Due.due("wrong ahead of too many", x.check(1), 1);
    }

    private static void refusedChecks() {
        Due.says(39, "BAD; NO: there is no IMAGE");
        SnowOwed x = dealt();
        for (int n : new int[] {Due.LEAST, -1, 0, 31, Due.MOST}) {
            Due.due("check " + n + ", no image", x.check(n), Due.BAD);
        }
        Due.due("no image", x.check(1), Due.NO);
        Due.due("no image", x.check(30), Due.NO);
        x.keep();
        for (int n : new int[] {Due.LEAST, -1, 0, 31, Due.MOST}) {
            Due.due("check " + n, x.check(n), Due.BAD);
        }
    }

    private static void keeps() {
        Due.says(40, "AN IMAGE is kept: how many YARDS");
        SnowOwed x = new SnowOwed();
        Due.due("none", x.keep(), 0);
        Due.due("back to none is not no", x.back(), 0);
        x.deal(10);
        Due.due("ten", x.keep(), 10);
        x.back();
        Due.due("ten", x.count(0), 10);
    }

    private static void backs() {
        Due.says(41, "All is as THE IMAGE: how many YARDS");
        SnowOwed x = new SnowOwed();
        x.keep();
        x.deal(10);
        x.days(20);
        for (int i = 0; i < 14; i++) {
            Due.text(x, "size " + i);
        }
        Due.due("to none", x.back(), 0);
        int[] due = {0, 0, 5, 3, 0, 0, 0, 0, 0, 0, 1};
        for (int what = 0; what <= 10; what++) {
            Due.due("count " + what, x.count(what), due[what]);
        }
        for (int what = 0; what <= 4; what++) {
            Due.due("ball " + what, x.ball(what), 0);
        }
        Due.due("no text counts", x.why(0), Due.NONE);
        Due.due("no text is told", x.textTold(0, 0), Due.BAD);
        Due.due("there is room for texts", Due.text(x, "fine 1"), 0);
        Due.due("it is another one", x.textTold(0, 0), 2);
        Due.due("there is room for yards", x.yard(5, 0, 1), 0);
        Due.says(41, "NO: there is none");
        Due.due("no image", new SnowOwed().back(), Due.NO);
        Due.due("no image, though there are yards", dealt().back(), Due.NO);
    }

    private static void counts() {
        Due.says(42, "How many: 0 YARDS, 1 THE DAY, 2 WARM, 3 FALL, 4 the move m, 5 BROKEN of all, together, 6 SNOW of all YARDS, 7 TEXTS, 8 numbers that wait, 9 bytes of THE TAPE, 10 z");
        SnowOwed x = Due.still();
        for (int i = 0; i < 10; i++) {
            x.yard(0, 999, 1);
        }
        x.pack(0, 900);
        x.rule(2, 9);
        x.days(1);
        x.rule(0, 99);
        x.rule(1, 98);
        x.rule(2, -9);
        for (int i = 0; i < 3; i++) {
            Due.text(x, "size 0");
        }
        x.tell(0);
        x.tell(0);
        x.feed(0, 0, 0);
        x.seed(-6);
        int[] due = {10, 1, 99, 98, -9, 10, 9990 - 499, 3, 2, 12, -6};
        for (int what = 0; what <= 10; what++) {
            Due.due("count " + what, x.count(what), due[what]);
        }
        Due.says(42, "BAD");
        for (int what : new int[] {Due.LEAST, -1, 11, Due.MOST}) {
            Due.due("count " + what, x.count(what), Due.BAD);
        }
    }

    private static void as512Calls() {
        Due.says(0, "An object is used for at most 512 calls after it has been made");
        SnowOwed x = new SnowOwed();
        x.yard(0, 0, 1);
        for (int call = 2; call <= 512; call++) {
            Due.due("call " + call, x.pack(0, 999), 999 * (call - 1));
        }
        SnowOwed y = new SnowOwed();
        for (int call = 1; call <= 512; call++) {
            Due.due("call " + call, y.seed(call + 1), call);
        }
    }
}
