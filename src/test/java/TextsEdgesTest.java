import java.nio.charset.StandardCharsets;

/** The fourth part of the terms and promises 24 to 28 at their edges, sentence by sentence. */
public final class TextsEdgesTest {
    private static final String DEEP8 = "((((((((";
    private static final String SHUT8 = "))))))))";
    private static final String BANG8 = "!!!!!!!!";

    public static void main(String[] args) {
        fourteenTexts();
        ninetySixBytes();
        usedUp();
        keys();
        looseAndTight();
        oneTestAlone();
        numbersOfFourDigits();
        namesOfKeys();
        withoutAText();
        wordsAsLongAsTheyGo();
        signsByThemselves();
        blanks();
        wordsNeedBlanks();
        faultIsTheFirst();
        ninthParenthesis();
        ninthBang();
        endTooSoon();
        intsWrap();
        byNought();
        oneOrNought();
        toldLast();
        feed();
        trim();
        text();
        textTold();
        why();
        Due.end();
    }

    private static byte[] bytes(String text) {
        return text.getBytes(StandardCharsets.ISO_8859_1);
    }

    /** place -1: no FAULT. */
    private static void fault(String text, int place) {
        SnowOwed x = new SnowOwed();
        Due.due("text '" + text + "'", Due.text(x, text), place < 0 ? 0 : -100 - place);
        Due.due("texts", x.count(7), place < 0 ? 1 : 0);
    }

    private static void right(String text) {
        fault(text, -1);
    }

    /** With WEIGHT 70 and BROKEN 1. */
    private static void gives(String e, int due) {
        SnowOwed x = Due.still();
        x.yard(0, 0, 3);
        x.pack(0, 70);
        x.days(1);
        Due.due("text fine " + e, Due.text(x, "fine " + e), 0);
        Due.due("fine " + e, x.fine(0), due);
    }

    private static SnowOwed full() {
        SnowOwed x = new SnowOwed();
        for (int i = 0; i < 14; i++) {
            Due.due("text", Due.text(x, "size " + i), i);
        }
        return x;
    }

    private static void fourteenTexts() {
        Due.says(0, "TEXTS, 14 at most, numbered from 0");
        SnowOwed x = full();
        Due.due("fourteen", x.count(7), 14);
        Due.due("the fifteenth", Due.text(x, "give 1"), Due.FULL);
        Due.due("fourteen still", x.count(7), 14);
        Due.due("none for give", x.why(1), Due.NONE);
        Due.due("the last counts", x.ball(1), 13);
    }

    private static void ninetySixBytes() {
        Due.says(0, "from THE TAPE (96 bytes at most");
        StringBuilder s = new StringBuilder("size w");
        while (s.length() < 96) {
            s.append("+1");
        }
        SnowOwed x = new SnowOwed();
        Due.tape(x, bytes(s.toString()));
        Due.due("96", x.count(9), 96);
        Due.due("no more", x.feed(0, 0, 0), Due.FULL);
        Due.due("96 still", x.count(9), 96);
        Due.due("all of them are there as they were", x.text(), 0);
        Due.due("45 numbers and a name", x.textTold(0, 1), 46);
        Due.due("0 and 45", x.ball(1), 45);
        Due.due("the last byte is a name", Due.text(x, s.substring(0, 95) + "w"), 1);
        Due.due("the last byte is a blank", Due.text(x, s.substring(0, 95) + " "), -196);
        Due.due("the last byte is a fault", Due.text(x, s.substring(0, 95) + "?"), -195);
    }

    private static void usedUp() {
        Due.says(0, "an act that reads it uses it up, whatever it answers");
        SnowOwed x = full();
        x.trim(0);
        Due.due("full", Due.text(x, "size 1"), Due.FULL);
        Due.due("used up", x.count(9), 0);
        Due.due("a fault", Due.text(x, "size ?"), -105);
        Due.due("used up", x.count(9), 0);
        SnowOwed y = new SnowOwed();
        Due.due("a text", Due.text(y, "size 1"), 0);
        Due.due("used up", y.count(9), 0);
        Due.due("nothing is left to be read", y.text(), -100);
        String[] faulty = {"size w1", "size nothing", "size 12345", "size (1", "size !!!!!!!!!1", "fine w!", "size (((((((((1", "si", "size 1w"};
        for (String text : faulty) {
            SnowOwed z = new SnowOwed();
            Due.isTrue("a fault: " + text, Due.text(z, text) <= -100);
            Due.due("the next is read from its beginning", Due.text(z, "size(5)"), 0);
            Due.due("and by itself", z.textTold(0, 1), 1);
            Due.due("its value", z.ball(1), 5);
        }
        Due.tape(y, bytes("size 1"));
        y.trim(7);
        y.count(9);
        Due.due("nothing else uses it up", y.text(), 1);
    }

    private static void keys() {
        Due.says(0, "KEY: size | give | fine");
        for (String key : new String[] {"size", "give", "fine"}) {
            right(key + " 1");
            for (int i = 0; i < 4; i++) {
                for (char c : new char[] {'a', 'q', 'z', 'E', ' ', '1'}) {
                    String other = key.substring(0, i) + c + key.substring(i + 1);
                    if (!other.equals(key) && c >= 'a') {
                        fault(other + " 1", 0);
                    }
                }
            }
            fault(key.substring(0, 3) + " 1", 0);
            fault(key.substring(1) + " 1", 0);
            fault(key + "s 1", 0);
            fault("a" + key + " 1", 0);
            fault(key.toUpperCase() + " 1", 0);
            fault(key + " " + key, 5);
        }
        fault("fize 1", 0);
        fault("gine 1", 0);
        fault("sive 1", 0);
        fault("w", 0);
        fault("1", 0);
        fault("(size 1)", 0);
        fault("!size 1", 0);
    }

    private static void looseAndTight() {
        Due.says(0, "E, the loosest first: OR: AND { | AND }; AND: TEST { & TEST }; TEST: SUM [ (< | = | >) SUM ]; SUM: TERM { (+ | -) TERM }; TERM: PIECE { (* | /) PIECE }");
        gives("1|0&0", 1);
        gives("0&0|1", 1);
        gives("0&0=0", 0);
        gives("1&0=0", 1);
        gives("0=0&0", 0);
        gives("1<1+1", 1);
        gives("1+1<1", 0);
        gives("1+2*3", 7);
        gives("2*3+1", 7);
        gives("8-4-2", 2);
        gives("8-4+2", 6);
        gives("64/4/2", 8);
        gives("64/4*2", 32);
        gives("2*7/3", 4);
        gives("7/3*2", 4);
        gives("8-(4-2)", 6);
        gives("0|0|1", 1);
        gives("1&1&0", 0);
        gives("!0+5", 6);
        gives("!0*5", 5);
        gives("!1=0", 1);
        for (String sign : new String[] {"|", "&", "<", "=", ">", "+", "-", "*", "/"}) {
            right("size 1" + sign + "1");
            fault("size " + sign + "1", 5);
            fault("size 1" + sign, 7);
            fault("size 1" + sign + sign + "1", 7);
            fault("size (" + sign + "1)", 6);
            fault("size (1" + sign + ")", 8);
            fault("size 1" + sign + "1 1", 9);
        }
    }

    private static void oneTestAlone() {
        Due.says(0, "TEST: SUM [ (< | = | >) SUM ]");
        for (String a : new String[] {"<", "=", ">"}) {
            for (String b : new String[] {"<", "=", ">"}) {
                fault("size 1" + a + "2" + b + "3", 8);
                right("size (1" + a + "2)" + b + "3");
                right("size 1" + a + "(2" + b + "3)");
                right("size 1" + a + "2&2" + b + "3");
                right("size 1" + a + "2|2" + b + "3");
                fault("size 1" + a + "2+1" + b + "3", 10);
                fault("size (1" + a + "2" + b + "3)", 9);
            }
        }
        gives("(1<2)<2", 1);
        gives("3>(2>1)", 1);
    }

    private static void numbersOfFourDigits() {
        Due.says(0, "NUMBER (1 to 4 digits)");
        gives("0", 0);
        gives("9", 9);
        gives("10", 10);
        gives("999", 999);
        gives("1000", 1000);
        gives("9999", 9999);
        gives("0000", 0);
        gives("0012", 12);
        gives("1234567890-1234567890".substring(0, 4), 1234);
        gives("5678", 5678);
        gives("90", 90);
        fault("size 10000", 5);
        fault("size 00000", 5);
        fault("size 1234567890", 5);
        fault("size 1+10000", 7);
        fault("size -1", 5);
    }

    private static void namesOfKeys() {
        Due.says(0, "NAMES, each one letter: of size w WEIGHT, l how many LAYERS; of give s SNOW, w WEIGHT, d THE DAY; of fine w WEIGHT, b BROKEN of the YARD");
        String[] keys = {"size", "give", "fine"};
        String[] names = {"wl", "swd", "wb"};
        for (int k = 0; k < 3; k++) {
            for (char c = 'a'; c <= 'z'; c++) {
                fault(keys[k] + " " + c, names[k].indexOf(c) >= 0 ? -1 : 5);
            }
            fault(keys[k] + " W", 5);
            fault(keys[k] + " ww", 5);
        }
        SnowOwed x = Due.still();
        Due.text(x, "size w+l");
        Due.due("no weight, no layers", x.ball(1), 0);
        Due.toDay(x, 9999);
        x.yard(0, 999, 1);
        Due.text(x, "give d-9000");
        Due.due("the last day", x.told(0, 4), 999);
        Due.text(x, "give s-d+9998");
        Due.due("snow less 1", x.told(0, 4), 998);
        for (int i = 0; i < 29; i++) {
            x.yard(0, 0, 999);
            x.pack(i % 2, 3);
        }
        Due.due("87 and 29", x.ball(1), 116);
        Due.text(x, "give w");
        Due.due("weight", x.told(0, 4), 87);
        Due.text(x, "fine w*10+b");
        Due.due("weight and broken", x.fine(0), 870);
    }

    private static void withoutAText() {
        Due.says(0, "(what fine gives for a YARD is told by fine(); without a TEXT: BROKEN)");
        SnowOwed x = Due.still();
        x.yard(0, 0, 1);
        x.pack(0, 40);
        Due.due("not broken", x.fine(0), 0);
        x.days(1);
        Due.due("broken once", x.fine(0), 1);
        Due.text(x, "size 9");
        Due.text(x, "give 9");
        Due.due("other texts do not count", x.fine(0), 1);
        Due.text(x, "fine 9");
        Due.due("with a text", x.fine(0), 9);
    }

    private static void wordsAsLongAsTheyGo() {
        Due.says(0, "A word is a row of letters a .. z, or of digits, as long as it goes");
        fault("size wa", 5);
        fault("size wz", 5);
        fault("size ww", 5);
        fault("size 12340", 5);
        fault("size 12349", 5);
        fault("sizea", 0);
        fault("sizez", 0);
        fault("sizew", 0);
    }

    private static void signsByThemselves() {
        Due.says(0, "any other byte is a sign by itself");
        String joins = "|&<=>+-*/";
        for (int b = 0; b < 256; b++) {
            boolean word = b >= 'a' && b <= 'z' || b >= '0' && b <= '9';
            boolean joined = joins.indexOf(b) >= 0;
            SnowOwed x = new SnowOwed();
            Due.tape(x, new byte[] {'s', 'i', 'z', 'e', ' ', 'w', (byte) b, 'w'});
            int due = joined ? 0 : b >= 'a' && b <= 'z' ? -105 : b == ' ' ? -107 : -106;
            Due.due("byte " + b + " between names", x.text(), due);
            x = new SnowOwed();
            Due.tape(x, new byte[] {'s', 'i', 'z', 'e', (byte) b, '1', ')'});
            due = b == '(' ? 0 : b >= 'a' && b <= 'z' ? -100 : b == ' ' || b == '!' ? -106 : -104;
            Due.due("byte " + b + " behind a key", x.text(), due);
            x = new SnowOwed();
            Due.tape(x, new byte[] {'s', 'i', 'z', 'e', ' ', '1', (byte) b});
            due = b == ' ' || b >= '0' && b <= '9' ? 0 : joined ? -107 : -106;
            Due.due("byte " + b + " at the end" + (word ? ", of a word" : ""), x.text(), due);
        }
    }

    private static void blanks() {
        Due.says(0, "Between words and signs, and at the ends, there may be blanks (byte 32)");
        right(" size 1");
        right("     size 1");
        right("size 1 ");
        right("size 1     ");
        right("size     1");
        right("  size  (  1  +  !  w  )  *  2  ");
        right("size(1+!w)*2");
        right("size!1");
        fault("size 1\t", 6);
        fault("\tsize 1", 0);
        fault("size\n1", 4);
        fault("size 1" + (char) 160, 6);
        fault("size" + (char) 0 + "1", 4);
        fault("si ze 1", 0);
        fault("size 1 2", 7);
    }

    private static void wordsNeedBlanks() {
        Due.says(0, "a word right behind another one needs one");
        fault("size1", 4);
        fault("size w1", 6);
        fault("size 1w", 6);
        fault("size 1 w", 7);
        fault("size w 1", 7);
        right("size w+1");
        right("size (w)");
        right("size 1");
        fault("size1 ", 4);
        fault("size12345", 4);
        fault("size 1www", 6);
        Due.says(0, "(a word that needs a blank ahead of it, a NUMBER of more than 4 digits");
        fault("size (1w)", 7);
        fault("size 1+w7", 8);
        fault("size 12345w", 5);
    }

    private static void faultIsTheFirst() {
        Due.says(0, "FAULT: the first byte of the first word or sign with which no TEXT goes on");
        fault("nothing at all", 0);
        fault("   nothing", 3);
        fault("size nothing", 5);
        fault("size    nothing", 8);
        fault("size 1 nothing ? ?", 7);
        fault("size ? nothing", 5);
        fault("size )", 5);
        fault("size ()", 6);
        fault("size 1)", 6);
        fault("size (1))", 8);
        fault("size 1(", 6);
        fault("size 1!", 6);
        fault("size 1!1", 6);
        fault("size !)", 6);
        fault("size (1 1)", 8);
        fault("size (1)(1)", 8);
        fault("size (1)1", 8);
        fault("size (1)w", 8);
        fault("size 1+10000+?", 7);
    }

    private static void ninthParenthesis() {
        Due.says(0, "the ninth ( that would be open within others");
        right("fine " + DEEP8 + "w" + SHUT8);
        fault("fine " + DEEP8 + "(w)" + SHUT8, 13);
        fault("fine " + DEEP8 + "(", 13);
        fault("fine " + DEEP8 + "w+(w)" + SHUT8, 15);
        right("fine " + DEEP8 + "w" + SHUT8 + "+" + DEEP8 + "w" + SHUT8);
        right("fine ((((((((w)+(w))+(w))))))+(w))");
        right("fine (1)+(1)+(1)+(1)+(1)+(1)+(1)+(1)+(1)+(1)");
        fault("fine 1+" + DEEP8 + "1*(1)" + SHUT8, 17);
        gives(DEEP8 + "w" + SHUT8, 70);
    }

    private static void ninthBang() {
        Due.says(0, "the ninth ! likewise, each by itself");
        right("fine " + BANG8 + "w");
        fault("fine " + BANG8 + "!w", 13);
        fault("fine " + BANG8 + "!", 13);
        right("fine " + BANG8 + "w+" + BANG8 + "w");
        right("fine " + BANG8 + DEEP8 + "w" + SHUT8);
        right("fine " + DEEP8 + BANG8 + "w" + SHUT8);
        fault("fine " + DEEP8 + BANG8 + "!w" + SHUT8, 21);
        fault("fine " + BANG8 + DEEP8 + "(w)" + SHUT8, 21);
        right("fine !1+!1+!1+!1+!1+!1+!1+!1+!1+!1");
        gives(BANG8 + "w", 1);
        gives(BANG8 + "0", 0);
        gives("!!!!!!!w", 0);
    }

    private static void endTooSoon() {
        Due.says(0, "the end (the place behind the last byte), if it comes too soon");
        fault("", 0);
        fault(" ", 1);
        fault("size", 4);
        fault("size ", 5);
        fault("size !", 6);
        fault("size (", 6);
        fault("size (1", 7);
        fault("size (1 ", 8);
        fault("size ((1)", 9);
        fault("size 1+", 7);
        fault("size 1<", 7);
        fault("size 1&  ", 9);
    }

    private static void intsWrap() {
        Due.says(0, "Ints wrap");
        String least = "8*8*8*8*8*8*8*8*8*8*2";
        gives(least, Due.LEAST);
        gives(least + "-1", Due.MOST);
        gives("(" + least + "-1)+1", Due.LEAST);
        gives("0-" + least, Due.LEAST);
        gives("(" + least + ")*(0-1)", Due.LEAST);
        gives("(" + least + ")/(0-1)", Due.LEAST);
        gives(least + "*2", 0);
        gives("9999*9999*9999", (int) (9999L * 9999 * 9999));
        gives("(" + least + ")<0", 1);
        gives("(" + least + "-1)>0", 1);
        gives("(" + least + ")<(" + least + "-1)", 1);
    }

    private static void byNought() {
        Due.says(0, "/ is 0 by 0");
        gives("7/0", 0);
        gives("0/0", 0);
        gives("(0-7)/0", 0);
        gives("7/(3-3)", 0);
        gives("7/(1<0)+5", 5);
        gives("0/7", 0);
        gives("6/7", 0);
        gives("7/7", 1);
    }

    private static void oneOrNought() {
        Due.says(0, "tests, & | ! give 1 or 0 (what is not 0 is true; both sides are worked out)");
        Object[][] due = {{"<", 0, 1, 0}, {"=", 1, 0, 0}, {">", 0, 0, 1}};
        for (Object[] d : due) {
            gives("7" + d[0] + "7", (Integer) d[1]);
            gives("6" + d[0] + "7", (Integer) d[2]);
            gives("7" + d[0] + "6", (Integer) d[3]);
        }
        String[] values = {"0", "1", "7", "(0-1)", "(0-7)"};
        for (String a : values) {
            gives("!" + a, a.equals("0") ? 1 : 0);
            for (String b : values) {
                gives(a + "&" + b, a.equals("0") || b.equals("0") ? 0 : 1);
                gives(a + "|" + b, a.equals("0") && b.equals("0") ? 0 : 1);
            }
        }
        gives("1|7/0", 1);
        gives("0&7/0", 0);
        gives("(0-1)<0", 1);
        gives("7", 7);
        gives("(7)", 7);
    }

    private static void toldLast() {
        Due.says(0, "Of a KEY that TEXT counts that was told last");
        SnowOwed x = new SnowOwed();
        Due.text(x, "size 5");
        Due.text(x, "size 6");
        Due.due("the second", x.ball(1), 6);
        Due.text(x, "give 7");
        Due.due("one of another key", x.ball(1), 6);
        Due.text(x, "size ?");
        Due.due("a fault", x.ball(1), 6);
        Due.text(x, "size 5");
        Due.due("the same as the first", x.why(0), 3);
        Due.due("its value", x.ball(1), 5);
    }

    private static void feed() {
        Due.says(24, "Twelve bytes come to THE TAPE, the highest of each number first: how many it has");
        SnowOwed x = new SnowOwed();
        Due.due("12", x.feed(0x66696e65, 0x20312b32, 0x2b332b34), 12);
        Due.due("their order", x.text(), 0);
        x.yard(0, 0, 1);
        Due.due("fine 1+2+3+4", x.fine(0), 10);
        Due.due("12 again", x.feed(-1, Due.LEAST, Due.MOST), 12);
        Due.due("a byte of 255", x.text(), -100);
        x.feed(0x2073697a, 0x65203120, 0x202020ff);
        Due.due("the lowest byte of the last", x.text(), -111);
        Due.says(24, "FULL: it would have more than 96");
        for (int i = 1; i <= 8; i++) {
            Due.due("feed", x.feed(0, 0, 0), 12 * i);
        }
        Due.due("96 and 12", x.feed(0, 0, 0), Due.FULL);
        x.trim(85);
        Due.due("85 and 12", x.feed(0, 0, 0), Due.FULL);
        Due.due("85 still", x.count(9), 85);
        x.trim(84);
        Due.due("84 and 12", x.feed(0, 0, 0), 96);
    }

    private static void trim() {
        Due.says(25, "THE TAPE keeps its first n bytes: n");
        SnowOwed x = new SnowOwed();
        Due.due("none of none", x.trim(0), 0);
        Due.tape(x, bytes("size 1234567"));
        Due.due("all", x.trim(12), 12);
        Due.due("nine", x.trim(9), 9);
        Due.due("its first", x.text(), 0);
        Due.due("size", x.ball(1), 999);
        Due.tape(x, bytes("size 7+8"));
        x.trim(6);
        x.feed(0x20202020, 0x20202020, 0x20202020);
        Due.due("what comes goes on from there", x.count(9), 18);
        Due.due("a text", x.text(), 1);
        Due.due("size 7", x.ball(1), 7);
        Due.says(25, "BAD");
        x.feed(0, 0, 0);
        for (int n : new int[] {Due.LEAST, -1, 13, 96, 97, Due.MOST}) {
            Due.due("trim " + n, x.trim(n), Due.BAD);
        }
        Due.due("twelve still", x.count(9), 12);
        x.trim(0);
        Due.due("one of none", x.trim(1), Due.BAD);
    }

    private static void text() {
        Due.says(26, "THE TAPE is a TEXT: its number");
        SnowOwed x = full();
        Due.says(26, "-100 less the place of its FAULT; FULL");
        Due.due("full", Due.text(x, "size 1"), Due.FULL);
        Due.due("a fault ahead of full", Due.text(x, "size ?"), -105);
        Due.due("the end ahead of full", Due.text(x, ""), -100);
        StringBuilder blank = new StringBuilder();
        while (blank.length() < 96) {
            blank.append(' ');
        }
        Due.due("the last place of all", Due.text(x, blank.toString()), -196);
    }

    private static void textTold() {
        Due.says(27, "Of a TEXT: what 0 KEY (0 size, 1 give, 2 fine), 1 how many NUMBERS and NAMES it has");
        SnowOwed x = new SnowOwed();
        String[] texts = {"fine 1", "give (s)", "size !(1+w*l)/!2", "size 1+1+1"};
        int[][] due = {{2, 1}, {1, 1}, {0, 4}, {0, 3}};
        for (int i = 0; i < 4; i++) {
            Due.text(x, texts[i]);
            Due.due("key of " + texts[i], x.textTold(i, 0), due[i][0]);
            Due.due("numbers and names of " + texts[i], x.textTold(i, 1), due[i][1]);
        }
        Due.says(27, "BAD");
        for (int text : new int[] {Due.LEAST, -1, 4, 13, 14, Due.MOST}) {
            Due.due("text " + text, x.textTold(text, 0), Due.BAD);
        }
        for (int what : new int[] {Due.LEAST, -1, 2, Due.MOST}) {
            Due.due("what " + what, x.textTold(0, what), Due.BAD);
        }
        Due.due("no texts", new SnowOwed().textTold(0, 0), Due.BAD);
    }

    private static void why() {
        Due.says(28, "The TEXT that counts for a KEY");
        SnowOwed x = full();
        Due.due("the last of fourteen", x.why(0), 13);
        Due.says(28, "BAD; NONE");
        Due.due("none for give", x.why(1), Due.NONE);
        Due.due("none for fine", x.why(2), Due.NONE);
        for (int key : new int[] {Due.LEAST, -1, 3, Due.MOST}) {
            Due.due("key " + key, x.why(key), Due.BAD);
        }
    }
}
