import java.nio.charset.StandardCharsets;
import java.util.Arrays;

/** What the tests share: answers that are due, TEXTS for THE TAPE, draws. */
final class Due {
    static final int BAD = -1000000001, NO = -1000000002, FULL = -1000000003, NONE = -1000000005;
    static final int NOTHING = -1000000011, KIND = -1000000012, INDEX = -1000000013, SIZE = -1000000014;

    static final int LEAST = Integer.MIN_VALUE, MOST = Integer.MAX_VALUE;

    private static int wrong = 0;
    private static int asked = 0;
    private static String sentence = "";
    private static int askedAhead = 0;

    private Due() {
    }

    static void due(String call, long got, long want) {
        asked++;
        if (got != want) {
            wrong++;
            System.out.println(sentence + call + " answered " + got + ", due is " + want);
        }
    }

    /** What follows tests this sentence of the document: of its terms (0) or of a promise. */
    static void says(int part, String quote) {
        isTrue("a sentence has answers of its own", sentence.isEmpty() || asked > askedAhead);
        askedAhead = asked;
        sentence = (part == 0 ? "Terms" : "Promise " + part) + ", '" + quote + "': ";
    }

    static void isTrue(String what, boolean holds) {
        due(what, holds ? 1 : 0, 1);
    }

    static void end() {
        System.out.println(asked + " answers, " + wrong + " wrong");
        if (wrong != 0) {
            System.exit(1);
        }
    }

    /** THE TAPE becomes just these bytes. */
    static void tape(SnowOwed x, byte[] bytes) {
        x.trim(0);
        byte[] full = Arrays.copyOf(bytes, (bytes.length + 11) / 12 * 12);
        for (int i = 0; i < full.length; i += 12) {
            due("feed", x.feed(four(full, i), four(full, i + 4), four(full, i + 8)), i + 12);
        }
        due("trim", x.trim(bytes.length), bytes.length);
    }

    static int text(SnowOwed x, String text) {
        tape(x, text.getBytes(StandardCharsets.ISO_8859_1));
        return x.text();
    }

    static int four(byte[] b, int i) {
        return (b[i] & 255) << 24 | (b[i + 1] & 255) << 16 | (b[i + 2] & 255) << 8 | b[i + 3] & 255;
    }

    /** z behind one draw. */
    static int drawn(int z) {
        return z * 1103515245 + 12345;
    }

    /** A seed whose first draw has this rest. */
    static int seedFor(int rest, int by) {
        int seed = 0;
        while ((drawn(seed) >>> 8) % by != rest) {
            seed++;
        }
        return seed;
    }

    /** As many days as there can be; nothing else changes if there are no yards. */
    static void toDay(SnowOwed x, int day) {
        while (x.count(1) < day) {
            x.days(Math.min(100, day - x.count(1)));
        }
    }

    /** A village where nothing thaws and no snow falls, so that its days can be reckoned by hand. */
    static SnowOwed still() {
        SnowOwed x = new SnowOwed();
        x.rule(0, 0);
        x.rule(1, 0);
        return x;
    }
}
