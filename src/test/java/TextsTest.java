/** Promises 24 to 28: texts. */
public final class TextsTest {
    public static void main(String[] args) {
        tape();
        values();
        namesOfKeys();
        faults();
        depths();
        strangeBytes();
        numbersOfTexts();
        whatCounts();
        Due.end();
    }

    private static void tape() {
        SnowOwed x = new SnowOwed();
        for (int i = 1; i <= 8; i++) {
            Due.due("feed", x.feed(i, i, i), 12 * i);
        }
        Due.due("feed on 96", x.feed(0, 0, 0), Due.FULL);
        Due.due("bytes", x.count(9), 96);
        Due.due("trim 97", x.trim(97), Due.BAD);
        Due.due("trim -1", x.trim(-1), Due.BAD);
        Due.due("trim 96", x.trim(96), 96);
        Due.due("trim 85", x.trim(85), 85);
        Due.due("feed on 85", x.feed(0, 0, 0), Due.FULL);
        Due.due("trim 84", x.trim(84), 84);
        Due.due("feed on 84", x.feed(0, 0, 0), 96);
        Due.due("trim 0", x.trim(0), 0);
        Due.due("trim 1 of none", x.trim(1), Due.BAD);
        Due.due("no bytes", x.text(), -100);
        x.feed(0x73697a65, 0x20372020, 0x20202020);
        Due.due("highest bytes first", x.text(), 0);
        Due.due("used up", x.count(9), 0);
        Due.due("size 7", x.ball(1), 7);
        x.feed(-1, -1, -1);
        Due.due("bytes above 127", x.text(), -100);
        Due.due("used up by a fault too", x.count(9), 0);
    }

    /** With WEIGHT 70 and BROKEN 1. */
    private static int worked(String e) {
        SnowOwed x = Due.still();
        x.yard(0, 0, 3);
        x.pack(0, 70);
        x.days(1);
        Due.due("text fine " + e, Due.text(x, "fine " + e), 0);
        return x.fine(0);
    }

    private static void values() {
        Object[][] rows = {
            {"6", 6}, {"0009", 9}, {"w", 70}, {"b", 1}, {"w*b", 70},
            {"1+2*3", 7}, {"7-2-1", 4}, {"100/7/2", 7}, {"100/7*2", 28}, {"2*3+4*5", 26}, {"(1+2)*3", 9},
            {"w/0", 0}, {"0/0", 0}, {"0-7/2", -3}, {"(0-7)/2", -3},
            {"1<2", 1}, {"2<1", 0}, {"2<2", 0}, {"2=2", 1}, {"2=3", 0}, {"2>2", 0}, {"3>2", 1}, {"2>3", 0},
            {"1+1=2", 1}, {"1=1+1", 0}, {"w=70", 1}, {"(1<2)<3", 1}, {"(3>2)>1", 0},
            {"5&3", 1}, {"5&0", 0}, {"0&5", 0}, {"0|9", 1}, {"9|0", 1}, {"0|0", 0}, {"(0-1)|0", 1},
            {"7|0&0", 1}, {"(7|0)&0", 0}, {"0&1|1", 1}, {"1|0=0", 1}, {"2&1<2", 1}, {"1<2&3>2|0", 1},
            {"!5", 0}, {"!0", 1}, {"!!5", 1}, {"!0+1", 2}, {"!(0+1)", 0}, {"!b*9", 0}, {"!(!(!0))", 1},
            {"(((((((w)))))))", 70}, {"9999*9999*9999", 9999 * 9999 * 9999}};
        for (Object[] row : rows) {
            Due.due("fine " + row[0], worked((String) row[0]), (Integer) row[1]);
        }
        Due.due("least by -1", worked("(8*8*8*8*8*8*8*8*8*8*2)/(0-1)"), Integer.MIN_VALUE);
        Due.due("single test is not made 1", worked("(7)|0"), 1);
        Due.due("alone it stays", worked("(7)"), 7);
    }

    private static void namesOfKeys() {
        SnowOwed x = Due.still();
        x.yard(0, 900, 999);
        x.yard(0, 800, 999);
        x.pack(0, 30);
        x.pack(1, 20);
        x.days(1);
        // 450 of yard 0: WEIGHT 500, 3 LAYERS, THE DAY 1, at yard 1
        Due.due("size", Due.text(x, "size w+l"), 0);
        Due.due("w and l", x.ball(1), 503);
        Due.due("give", Due.text(x, "give s/4+w/10+d*3"), 1);
        Due.due("s, w and d", x.told(1, 4), 200 + 50 + 3);
        Due.due("fine", Due.text(x, "fine w+b"), 2);
        Due.due("w and b", x.fine(1), 500);
        x.days(1);
        Due.due("given by the text", x.ball(0), 753);
        Due.due("snow is less", x.told(1, 1), 547);
        String letters = "abcdefghijklmnopqrstuvwxyz";
        String[] keys = {"size", "give", "fine"};
        String[] names = {"wl", "swd", "wb"};
        for (int k = 0; k < 3; k++) {
            for (int i = 0; i < 26; i++) {
                SnowOwed y = new SnowOwed();
                char c = letters.charAt(i);
                int due = names[k].indexOf(c) >= 0 ? 0 : -105;
                Due.due(keys[k] + " " + c, Due.text(y, keys[k] + " " + c), due);
            }
        }
    }

    private static void fault(String text, int place) {
        SnowOwed x = new SnowOwed();
        Due.due("'" + text + "'", Due.text(x, text), place < 0 ? 0 : -100 - place);
        Due.due("texts", x.count(7), place < 0 ? 1 : 0);
        Due.due("used up", x.count(9), 0);
    }

    private static void faults() {
        fault("", 0);
        fault("   ", 3);
        fault("size", 4);
        fault("size   ", 7);
        fault("siz w", 0);
        fault("sizes w", 0);
        fault("sizew", 0);
        fault("sizea w", 0);
        fault("sizez w", 0);
        fault("xize w", 0);
        fault("sixe w", 0);
        fault("givf s", 0);
        fault("  Size w", 2);
        fault("7", 0);
        fault("(size w)", 0);
        fault("size size", 5);
        fault("size w", -1);
        fault("  size w  ", -1);
        fault("size(w)", -1);
        fault("size!w", -1);
        fault("size7", 4);
        fault("size 7", -1);
        fault("size  7  +  w", -1);
        fault("size w7", 6);
        fault("size 7w", 6);
        fault("size w 7", 7);
        fault("size ww", 5);
        fault("size 9999", -1);
        fault("size 99999", 5);
        fault("size 1+12345", 7);
        fault("size 00001", 5);
        fault("size w+", 7);
        fault("size w+ ", 8);
        fault("size +w", 5);
        fault("size -1", 5);
        fault("size w++w", 7);
        fault("size w*/w", 7);
        fault("size ()", 6);
        fault("size (w", 7);
        fault("size (w))", 8);
        fault("size w)", 6);
        fault("size (w+)", 8);
        fault("size (w w)", 8);
        fault("size w(w)", 6);
        fault("size 1<2<3", 8);
        fault("size 1<2=3", 8);
        fault("size (1<2)<3", -1);
        fault("size 1<2&2<3|1=1", -1);
        fault("size 1==1", 7);
        fault("size 1<=1", 7);
        fault("size w!w", 6);
        fault("size w&&w", 7);
        fault("size !", 6);
        fault("size !+", 6);
        fault("size w,", 6);
        fault("size w\tw", 6);
        fault("size\tw", 4);
        fault("size W", 5);
        fault("size s", 5);
        fault("give l", 5);
        fault("fine d", 5);
    }

    private static void depths() {
        fault("fine ((((((((w))))))))", -1);
        fault("fine (((((((((w)))))))))", 13);
        fault("fine ((((((((w))))))))+((((((((w))))))))", -1);
        fault("fine ((((((((w)+(w)))))))+1)", -1);
        fault("fine ((((((((w)+((w))))))))+1)", 17);
        fault("fine !!!!!!!!w", -1);
        fault("fine !!!!!!!!!w", 13);
        fault("fine !!!!!!!!w+!!!!!!!!w", -1);
        fault("fine !!!!!!!!((((((((w))))))))", -1);
        fault("fine !(!(!(!(!(!(!(!(w))))))))", -1);
        fault("fine !(!(!(!(!(!(!(!(!w))))))))", 21);
        fault("fine !(!(!(!(!(!(!(!((w)))))))))", 21);
        fault("fine !!!!!!!!(!w)", 14);
        fault("fine (!!!!!!!!w)+!w", -1);
        fault("fine !!!!(!!!!w+!!!!w)", -1);
        StringBuilder longest = new StringBuilder("size w");
        while (longest.length() < 95) {
            longest.append("+1");
        }
        Due.due("96 bytes", longest.length(), 96);
        SnowOwed x = new SnowOwed();
        Due.due("96 bytes", Due.text(x, longest.toString()), 0);
        Due.due("their value", x.ball(1), 45);
        Due.due("their atoms", x.textTold(0, 1), 46);
        fault("give ((((((((1|1&1<1+1*((1", 23);
        SnowOwed y = new SnowOwed();
        String deep = "fine 0|1&1=0+1*(0|1&1=0+1*(0|1&1=0+1*(0|1&1=0+1*(0|1&1=0+1*(0|1&1=0+1*(7)))))))";
        Due.due("many pending", Due.text(y, deep.substring(0, deep.length() - 1)), 0);
        y.yard(0, 0, 1);
        Due.due("many pending, worked out", y.fine(0), 0);
        fault(deep, deep.length() - 1);
    }

    private static void strangeBytes() {
        for (int b = 0; b < 256; b++) {
            byte[] bytes = {'s', 'i', 'z', 'e', ' ', 'w', ' ', (byte) b, ' ', '1'};
            SnowOwed x = new SnowOwed();
            Due.tape(x, bytes);
            boolean joins = "|&<=>+-*/".indexOf(b) >= 0;
            int due = joins ? 0 : b == ' ' ? -109 : -107;
            Due.due("byte " + b, x.text(), due);
        }
    }

    private static void numbersOfTexts() {
        SnowOwed x = new SnowOwed();
        Due.due("no text", x.textTold(0, 0), Due.BAD);
        for (int i = 0; i < 14; i++) {
            String[] texts = {"size 1", "give s+2+d", "fine !b"};
            Due.due("text", Due.text(x, texts[i % 3]), i);
            Due.due("key", x.textTold(i, 0), i % 3);
            Due.due("atoms", x.textTold(i, 1), i % 3 == 1 ? 3 : 1);
        }
        Due.due("fifteenth", Due.text(x, "size 2"), Due.FULL);
        Due.due("used up", x.count(9), 0);
        Due.due("fault ahead of full", Due.text(x, "size 2 2"), -107);
        Due.due("texts", x.count(7), 14);
        Due.due("size is not 2", x.ball(1), 1);
        Due.due("text -1", x.textTold(-1, 0), Due.BAD);
        Due.due("text 14", x.textTold(14, 0), Due.BAD);
        Due.due("what -1", x.textTold(0, -1), Due.BAD);
        Due.due("what 2", x.textTold(0, 2), Due.BAD);
    }

    private static void whatCounts() {
        SnowOwed x = new SnowOwed();
        Due.due("why size", x.why(0), Due.NONE);
        Due.due("why -1", x.why(-1), Due.BAD);
        Due.due("why 3", x.why(3), Due.BAD);
        Due.text(x, "size 5");
        Due.text(x, "give 6");
        Due.text(x, "size 8");
        Due.due("told last", x.why(0), 2);
        Due.due("give", x.why(1), 1);
        Due.due("fine", x.why(2), Due.NONE);
        Due.due("by the last", x.ball(1), 8);
        Due.text(x, "size 9 9");
        Due.due("a fault counts for nothing", x.ball(1), 8);
    }
}
