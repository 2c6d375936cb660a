import java.nio.charset.StandardCharsets;

/**
 * All that calls can tell of an object, as one text. Reading it uses the object up (slots, sheets, tape
 * and waiting numbers are only told by calls that change them), so two objects that went the same way
 * are compared, of which one has been asked something more. Small villages alone: 512 calls are few.
 */
final class Whole {
    private final SnowOwed x;
    private final StringBuilder all = new StringBuilder();

    private Whole(SnowOwed x) {
        this.x = x;
    }

    static String of(SnowOwed x) {
        Whole whole = new Whole(x);
        whole.village();
        whole.slots();
        whole.sheets();
        whole.put("waits", x.check(2), x.count(8));
        whole.put("tape", x.text(), x.count(9), x.count(7), x.ball(1));
        whole.put("image", x.back());
        whole.village();
        return whole.all.toString();
    }

    /** A village in which everything is otherwise than at first, with an image that is otherwise again. */
    static SnowOwed rich() {
        SnowOwed x = new SnowOwed();
        x.seed(5);
        x.yard(0, 100, 5);
        x.yard(1, 80, 20);
        x.yard(5, 40, 2);
        Due.text(x, "give s/3");
        Due.text(x, "fine b+w");
        x.days(2);
        x.pack(0, 9);
        x.lose(1);
        x.pack(1, 5);
        x.lose(4);
        x.rule(0, 7);
        x.rule(1, 2);
        x.rule(2, -2);
        x.sheet(0, 0, 3);
        x.mark(0, 0, 30);
        x.mark(0, 2, -4);
        x.sheet(1, 1, 2);
        x.mark(1, 1, Due.NONE);
        x.sheet(2, 1, 0);
        x.lay(0, 1, 2);
        x.lay(1, 2, 1);
        x.lay(2, 3, 44);
        x.lay(3, 3, -7);
        x.keep();
        for (int day = 1; day <= 2; day++) {
            x.tell(x.behind(day, 0));
            x.tell(x.behind(day, 1));
        }
        x.days(3);
        Due.text(x, "size l*3");
        x.rule(0, 9);
        x.turns(1, 4);
        Due.tape(x, "size w/7".getBytes(StandardCharsets.ISO_8859_1));
        return x;
    }

    private void put(String name, int... told) {
        all.append(name);
        for (int v : told) {
            all.append(' ').append(v);
        }
        all.append('\n');
    }

    private void village() {
        for (int what = 0; what <= 10; what++) {
            put("count", x.count(what));
        }
        for (int what = 0; what <= 4; what++) {
            put("ball", x.ball(what));
        }
        int yards = Math.min(4, x.count(0));
        for (int y = 0; y < yards; y++) {
            put("yard", x.told(y, 0), x.told(y, 1), x.told(y, 2), x.told(y, 3), x.told(y, 4), x.told(y, 5), x.told(y, 7), x.fine(y));
        }
        int layers = Math.min(4, x.ball(3));
        for (int l = 0; l < layers; l++) {
            put("layer", x.layer(l, 0), x.layer(l, 1));
        }
        for (int t = 0; t < 6; t++) {
            put("thing", x.thing(t));
        }
        int texts = Math.min(3, x.count(7));
        for (int t = 0; t < texts; t++) {
            put("text", x.textTold(t, 0), x.textTold(t, 1));
        }
        put("why", x.why(0), x.why(1), x.why(2));
    }

    private void slots() {
        for (int s = 0; s < 5; s++) {
            put("slot", x.ask(s, 0), x.ask(s, 1), x.ask(s, 2), x.ask(s, 5), x.rest(s, Due.MOST));
            for (int p = 0; p < 4; p++) {
                put("item", x.item(s, p));
            }
        }
    }

    private void sheets() {
        put("sorts", x.copy(0, 0, 1, 0, 0), x.copy(0, 0, 2, 0, 0), x.copy(0, 0, 3, 0, 0));
        for (int s = 0; s < 4; s++) {
            put("lay", x.lay(s, 2, s));
            for (int p = 0; p < 4; p++) {
                put("place", x.item(s, p));
            }
            put("places", x.item(s, 23), x.item(s, 24));
        }
        x.sheet(3, 0, 0);
        put("sort", x.copy(0, 0, 3, 0, 0));
    }
}
