/** Promises 38 to 42: numbers that wait, images, counts. */
public final class RowsTest {
    public static void main(String[] args) {
        telling();
        checking();
        checkingByTheImage();
        checkingTheLastDays();
        images();
        imagesOfTexts();
        whatImagesLeave();
        counts();
        Due.end();
    }

    private static void telling() {
        SnowOwed x = new SnowOwed();
        for (int i = 1; i <= 60; i++) {
            Due.due("tell", x.tell(i), i);
        }
        Due.due("sixty wait", x.tell(0), Due.FULL);
        Due.due("waiting", x.count(8), 60);
        Due.due("no image", x.check(1), Due.NO);
        Due.due("none wait then", x.count(8), 0);
        x.tell(4);
        Due.due("bad ahead of no", x.check(0), Due.BAD);
        Due.due("none wait then either", x.count(8), 0);
        x.tell(4);
        Due.due("31", x.check(31), Due.BAD);
        Due.due("nor then", x.count(8), 0);
    }

    /** Tells the days of n days, but number wrongAt 1 more, and no more than many numbers. */
    private static void tellDays(SnowOwed x, int n, int wrongAt, int many) {
        int told = 0;
        for (int day = 1; day <= n; day++) {
            int[] two = {x.behind(day, 0), x.behind(day, 1)};
            for (int v : two) {
                if (told < many) {
                    x.tell(told == wrongAt ? v + 1 : v);
                }
                told++;
            }
        }
    }

    private static SnowOwed dealt() {
        SnowOwed x = new SnowOwed();
        x.seed(41);
        x.deal(5);
        x.days(3);
        return x;
    }

    private static void checking() {
        SnowOwed x = dealt();
        x.keep();
        tellDays(x, 30, -1, 60);
        Due.due("sixty right ones", x.check(30), 0);
        Due.due("none wait", x.count(8), 0);
        for (int wrong = 0; wrong < 8; wrong++) {
            tellDays(x, 4, wrong, 8);
            Due.due("number " + wrong + " is not", x.check(4), 1 + wrong);
            tellDays(x, 4, -1, wrong);
            Due.due("number " + wrong + " is missing", x.check(4), 1 + wrong);
        }
        tellDays(x, 4, -1, 8);
        Due.due("one day too many", x.check(3), 7);
        tellDays(x, 4, 7, 8);
        Due.due("too many, wrong or not", x.check(3), 7);
        Due.due("nothing told", x.check(1), 1);
        Due.due("the day", x.count(1), 3);
    }

    private static void checkingByTheImage() {
        SnowOwed x = dealt();
        Due.text(x, "give s/3");
        x.keep();
        tellDays(x, 6, -1, 12);
        x.days(9);
        Due.text(x, "give 0");
        x.rule(0, 90);
        x.rule(1, 90);
        x.rule(2, 5);
        x.set(0, 1, 777);
        String before = WillBeTest.all(x);
        Due.due("by the image, with its laws", x.check(6), 0);
        Due.isTrue("nothing changed", before.equals(WillBeTest.all(x)));
        Due.due("the day", x.count(1), 12);
    }

    private static void checkingTheLastDays() {
        SnowOwed x = dealt();
        for (int i = 0; i < 99; i++) {
            x.days(100);
        }
        x.days(94);
        Due.due("the day", x.count(1), 9997);
        x.keep();
        tellDays(x, 2, -1, 4);
        Due.due("fewer", x.check(30), 0);
        tellDays(x, 3, -1, 6);
        Due.due("one too many", x.check(30), 5);
        x.days(2);
        x.keep();
        Due.due("no days, no numbers", x.check(1), 0);
        x.tell(0);
        Due.due("no days, a number", x.check(1), 1);
    }

    private static void images() {
        SnowOwed x = dealt();
        Due.due("no image", x.back(), Due.NO);
        x.lose(1);
        x.lose(3);
        x.rule(2, -2);
        String kept = WillBeTest.all(x);
        Due.due("keep", x.keep(), 5);
        for (int again = 0; again < 3; again++) {
            x.deal(4);
            x.days(30);
            x.rule(0, 50);
            x.rule(1, 50);
            x.rule(2, 3);
            x.turns(0, 5);
            x.find(1);
            x.pack(2, 9);
            Due.isTrue("otherwise", !kept.equals(WillBeTest.all(x)));
            Due.due("back", x.back(), 5);
            Due.isTrue("as the image", kept.equals(WillBeTest.all(x)));
        }
        x.deal(2);
        Due.due("keep another", x.keep(), 7);
        x.deal(1);
        Due.due("back to the last", x.back(), 7);
        SnowOwed y = new SnowOwed();
        Due.due("keep without yards", y.keep(), 0);
        y.deal(10);
        y.days(5);
        Due.due("back to none", y.back(), 0);
        Due.due("no yards", y.count(0), 0);
        Due.due("z", y.count(10), 1);
        Due.due("no layers", y.ball(3), 0);
    }

    private static void imagesOfTexts() {
        SnowOwed x = new SnowOwed();
        Due.text(x, "size 5");
        Due.text(x, "fine 6");
        x.keep();
        Due.due("one more", Due.text(x, "size 7"), 2);
        Due.due("by it", x.ball(1), 7);
        x.back();
        Due.due("texts", x.count(7), 2);
        Due.due("by the first", x.ball(1), 5);
        Due.due("why", x.why(0), 0);
        Due.due("it is no more", x.textTold(2, 0), Due.BAD);
        Due.due("another one", Due.text(x, "give 8+8"), 2);
        Due.due("its key", x.textTold(2, 0), 1);
        Due.due("the first still", x.textTold(0, 0), 0);
        x.back();
        Due.due("why give", x.why(1), Due.NONE);
    }

    private static void whatImagesLeave() {
        SnowOwed x = dealt();
        x.sheet(0, 1, 2);
        x.keep();
        x.sheet(0, 1, 3);
        x.sheet(1, 0, 1);
        x.lay(2, 3, 44);
        x.tell(1);
        x.feed(1, 2, 3);
        x.back();
        Due.due("sheet 0 has place 2", x.mark(0, 2, 1), 1);
        Due.due("sheet 1 is there", x.mark(1, 0, 1), 1);
        Due.due("slot 2", x.rest(2, 10), 4);
        Due.due("waiting", x.count(8), 1);
        Due.due("bytes", x.count(9), 12);
    }

    private static void counts() {
        SnowOwed x = Due.still();
        x.yard(0, 40, 2);
        x.yard(0, 50, 2);
        x.pack(0, 30);
        x.days(2);
        Due.text(x, "fine 1");
        x.tell(1);
        x.tell(1);
        x.tell(1);
        x.feed(1, 1, 1);
        x.seed(99);
        x.rule(0, 8);
        x.rule(1, 9);
        x.rule(2, -4);
        int[] due = {2, 2, 8, 9, -4, 2, 45, 1, 3, 12, 99};
        for (int what = 0; what < due.length; what++) {
            Due.due("count " + what, x.count(what), due[what]);
        }
        Due.due("count -1", x.count(-1), Due.BAD);
        Due.due("count 11", x.count(11), Due.BAD);
    }
}
