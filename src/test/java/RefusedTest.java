import java.nio.charset.StandardCharsets;
import java.util.function.Supplier;
import java.util.function.ToIntFunction;

/** A call that is refused changes nothing, and of several refusals the first one answers. */
public final class RefusedTest {
    private static int calls = 0;

    public static void main(String[] args) {
        Due.says(0, "A call that is refused answers one of BAD, NO, FULL, or a FINDING, of several the one that stands first with it, and changes nothing (but the tape and the numbers that wait, where told)");
        yards();
        ball();
        willBe();
        texts();
        sheets();
        slots();
        rows();
        whereTold();
        Due.says(0, "NONE: there is none");
        none();
        System.out.println(calls + " refused calls");
        Due.end();
    }

    /** Two of the same village, of which one is asked, are the same behind it. */
    private static void refused(Supplier<SnowOwed> village, String call, int due, ToIntFunction<SnowOwed> asks) {
        calls++;
        SnowOwed asked = village.get();
        SnowOwed not = village.get();
        Due.due(call, asks.applyAsInt(asked), due);
        Due.isTrue(call + " changes nothing", Whole.of(asked).equals(Whole.of(not)));
    }

    private static void refused(String call, int due, ToIntFunction<SnowOwed> asks) {
        refused(Whole::rich, call, due, asks);
    }

    private static SnowOwed tenYards() {
        SnowOwed x = Whole.rich();
        x.deal(7);
        return x;
    }

    /** No LAYERS, no IMAGE. */
    private static SnowOwed newer() {
        SnowOwed x = new SnowOwed();
        x.yard(0, 4, 9);
        x.lay(2, 3, 7);
        x.sheet(1, 1, 2);
        return x;
    }

    private static void yards() {
        refused("yard of kind 6", Due.BAD, x -> x.yard(6, 1, 1));
        refused("yard of snow 1000", Due.BAD, x -> x.yard(0, 1000, 1));
        refused("yard of gate 0", Due.BAD, x -> x.yard(0, 1, 0));
        refused(RefusedTest::tenYards, "the eleventh yard", Due.FULL, x -> x.yard(0, 1, 1));
        refused(RefusedTest::tenYards, "the eleventh, of kind 6", Due.BAD, x -> x.yard(6, 1, 1));
        refused("told of yard 3", Due.BAD, x -> x.told(3, 0));
        refused("told 8", Due.BAD, x -> x.told(0, 8));
        refused("as of yard 3", Due.BAD, x -> x.as(3, 0));
        refused("as of kind 6", Due.BAD, x -> x.as(0, 6));
        refused("as: not of that kind", Due.KIND, x -> x.as(0, 1));
        refused("turns of yard 3", Due.BAD, x -> x.turns(3, 0));
        refused("turns to kind 6", Due.BAD, x -> x.turns(0, 6));
        refused("turns to kind -1", Due.BAD, x -> x.turns(0, -1));
        refused("set of yard 3", Due.BAD, x -> x.set(3, 1, 1));
        refused("set snow 1000", Due.BAD, x -> x.set(0, 1, 1000));
        refused("set snow -1", Due.BAD, x -> x.set(0, 1, -1));
        refused("set gate 0", Due.BAD, x -> x.set(0, 2, 0));
        refused("set gate 1000", Due.BAD, x -> x.set(0, 2, 1000));
        refused("set 3", Due.BAD, x -> x.set(0, 3, 1));
        refused("deal 0", Due.BAD, x -> x.deal(0));
        refused("deal 11", Due.BAD, x -> x.deal(11));
    }

    private static void ball() {
        refused("rule 3", Due.BAD, x -> x.rule(3, 0));
        refused("warm 100", Due.BAD, x -> x.rule(0, 100));
        refused("fall -1", Due.BAD, x -> x.rule(1, -1));
        refused("move 10", Due.BAD, x -> x.rule(2, 10));
        refused("at 3", Due.BAD, x -> x.at(3));
        refused("at -1", Due.BAD, x -> x.at(-1));
        refused("ball 5", Due.BAD, x -> x.ball(5));
        refused("layer 29", Due.BAD, x -> x.layer(29, 0));
        refused("layer, what 2", Due.BAD, x -> x.layer(0, 2));
        refused("pack of yard 3", Due.BAD, x -> x.pack(3, 1));
        refused("pack 0", Due.BAD, x -> x.pack(0, 0));
        refused("pack 1000", Due.BAD, x -> x.pack(0, 1000));
        refused("lose 6", Due.BAD, x -> x.lose(6));
        refused(RefusedTest::newer, "lose without layers", Due.NO, x -> x.lose(0));
        refused(RefusedTest::newer, "lose 6 without layers", Due.BAD, x -> x.lose(6));
        refused("find 6", Due.BAD, x -> x.find(6));
        refused("thing 6", Due.BAD, x -> x.thing(6));
        refused("days 0", Due.BAD, x -> x.days(0));
        refused("days 101", Due.BAD, x -> x.days(101));
    }

    private static void willBe() {
        refused("behind 101", Due.BAD, x -> x.behind(101, 0));
        refused("behind, what 4", Due.BAD, x -> x.behind(1, 4));
        refused("way 6", Due.BAD, x -> x.way(6, 0));
        refused("way, what 3", Due.BAD, x -> x.way(1, 3));
        refused(SnowOwed::new, "way 6 without yards", Due.BAD, x -> x.way(6, 0));
        refused("warmed by sheet 4", Due.BAD, x -> x.warmed(4, 0));
        refused("warmed, what 2", Due.BAD, x -> x.warmed(0, 2));
        refused("warmed by a missing one", Due.NOTHING, x -> x.warmed(3, 0));
        refused("warmed by a missing one, what 2", Due.BAD, x -> x.warmed(3, 2));
        refused("fine of yard 3", Due.BAD, x -> x.fine(3));
    }

    private static SnowOwed longTape() {
        SnowOwed x = Whole.rich();
        for (int i = 0; i < 7; i++) {
            x.feed(0x20202020, 0x20202020, 0x20202020);
        }
        return x;
    }

    private static void texts() {
        refused(RefusedTest::longTape, "92 bytes and 12", Due.FULL, x -> x.feed(0x2b2b2b2b, 0, 0));
        refused("trim -1", Due.BAD, x -> x.trim(-1));
        refused("trim 9 of 8", Due.BAD, x -> x.trim(9));
        refused("text 3", Due.BAD, x -> x.textTold(3, 0));
        refused("text, what 2", Due.BAD, x -> x.textTold(0, 2));
        refused("why 3", Due.BAD, x -> x.why(3));
    }

    private static void sheets() {
        refused("sheet 4", Due.BAD, x -> x.sheet(4, 0, 1));
        refused("sheet of sort 2", Due.BAD, x -> x.sheet(0, 2, 1));
        refused("sheet of 25", Due.BAD, x -> x.sheet(0, 0, 25));
        refused("sheet of -1", Due.SIZE, x -> x.sheet(0, 1, -1));
        refused("sheet 4 of -1", Due.BAD, x -> x.sheet(4, 1, -1));
        refused("mark of sheet 4", Due.BAD, x -> x.mark(4, 0, 0));
        refused("mark of a missing one", Due.NOTHING, x -> x.mark(3, 0, 5));
        refused("mark of place 3", Due.INDEX, x -> x.mark(0, 3, 5));
        refused("mark of none in shorts", Due.KIND, x -> x.mark(0, 0, Due.NONE));
        refused("mark of 100000 in floats", Due.BAD, x -> x.mark(1, 0, 100000));
        refused("mark of 100000 beyond floats", Due.INDEX, x -> x.mark(1, 2, 100000));
        refused("pour of sheet 4", Due.BAD, x -> x.pour(4));
        refused("pour of a missing one", Due.NOTHING, x -> x.pour(3));
        refused("reads of sheet 4", Due.BAD, x -> x.reads(4));
        refused("reads of a missing one", Due.NOTHING, x -> x.reads(3));
        refused("copy from 4", Due.BAD, x -> x.copy(4, 0, 0, 0, 1));
        refused("copy to 4", Due.BAD, x -> x.copy(0, 0, 4, 0, 1));
        refused("copy to a missing one", Due.NOTHING, x -> x.copy(0, 0, 3, 0, 1));
        refused("copy of two sorts", Due.KIND, x -> x.copy(0, 0, 1, 0, 1));
        refused("copy beyond", Due.INDEX, x -> x.copy(0, 0, 0, 1, 3));
        refused("copy of -1", Due.INDEX, x -> x.copy(0, 0, 0, 1, -1));
        refused("copy of two sorts beyond", Due.KIND, x -> x.copy(0, 9, 1, 9, 9));
        refused("copy beyond a missing one", Due.NOTHING, x -> x.copy(3, 9, 1, 9, 9));
    }

    private static void slots() {
        refused("lay on slot 5", Due.BAD, x -> x.lay(5, 3, 1));
        refused("lay of thing 4", Due.BAD, x -> x.lay(2, 4, 1));
        refused("lay of yard 3", Due.BAD, x -> x.lay(2, 1, 3));
        refused("lay of sheet 4", Due.BAD, x -> x.lay(2, 2, 4));
        refused("lay of a missing one", Due.NOTHING, x -> x.lay(2, 2, 3));
        refused("lay of a missing one where a yard is", Due.NOTHING, x -> x.lay(0, 2, 3));
        refused("lay of yard 3 where a sheet is", Due.BAD, x -> x.lay(1, 1, 3));
        refused("ask slot 5", Due.BAD, x -> x.ask(5, 0));
        refused("ask for kind 6", Due.BAD, x -> x.ask(0, 6));
        refused("ask nothing", Due.NOTHING, x -> x.ask(4, 0));
        refused("ask nothing for kind 6", Due.BAD, x -> x.ask(4, 6));
        refused("ask a number", Due.KIND, x -> x.ask(2, 0));
        refused("ask straw for slope", Due.KIND, x -> x.ask(0, 1));
        refused("item of slot 5", Due.BAD, x -> x.item(5, 0));
        refused("item of nothing", Due.NOTHING, x -> x.item(4, -1));
        refused("item of a number", Due.KIND, x -> x.item(2, -1));
        refused("item 2 of 2", Due.INDEX, x -> x.item(1, 2));
        refused("item that is no number", Due.KIND, x -> x.item(1, 1));
        refused("rest of slot 5", Due.BAD, x -> x.rest(5, 0));
        refused("rest of nothing", Due.NOTHING, x -> x.rest(4, 0));
        refused("rest of a sheet", Due.KIND, x -> x.rest(1, 0));
        refused("rest by 0", Due.NO, x -> x.rest(2, 0));
    }

    private static SnowOwed sixty() {
        SnowOwed x = Whole.rich();
        while (x.count(8) < 60) {
            x.tell(3);
        }
        return x;
    }

    private static void rows() {
        refused(RefusedTest::sixty, "tell on sixty", Due.FULL, x -> x.tell(3));
        refused(RefusedTest::newer, "back without an image", Due.NO, SnowOwed::back);
        refused("count 11", Due.BAD, x -> x.count(11));
    }

    private static SnowOwed fourteenTexts() {
        SnowOwed x = Whole.rich();
        x.trim(0);
        while (x.count(7) < 14) {
            Due.text(x, "fine 3");
        }
        Due.tape(x, new byte[] {'s', 'i', 'z', 'e', ' ', '1'});
        return x;
    }

    /** What these use up though they are refused, and that it is all they change. */
    private static void whereTold() {
        like("text on fourteen", Due.FULL, fourteenTexts(), SnowOwed::text, withoutTape(fourteenTexts()));
        like("a faulty text", -105, faulty("size ?"), SnowOwed::text, withoutTape(Whole.rich()));
        like("a text that ends too soon", -107, faulty("size 1+"), SnowOwed::text, withoutTape(Whole.rich()));
        like("check 0", Due.BAD, Whole.rich(), x -> x.check(0), withoutWaiting(Whole.rich()));
        like("check 31", Due.BAD, Whole.rich(), x -> x.check(31), withoutWaiting(Whole.rich()));
        like("check without an image", Due.NO, toldOne(newer()), x -> x.check(1), newer());
        like("check 0 without an image", Due.BAD, toldOne(newer()), x -> x.check(0), newer());
    }

    private static SnowOwed faulty(String text) {
        SnowOwed x = Whole.rich();
        Due.tape(x, text.getBytes(StandardCharsets.ISO_8859_1));
        return x;
    }

    private static SnowOwed withoutTape(SnowOwed x) {
        x.trim(0);
        return x;
    }

    private static SnowOwed withoutWaiting(SnowOwed x) {
        Due.due("a right check", x.check(2), 0);
        return x;
    }

    private static SnowOwed toldOne(SnowOwed x) {
        x.tell(5);
        return x;
    }

    private static void like(String call, int due, SnowOwed asked, ToIntFunction<SnowOwed> asks, SnowOwed other) {
        calls++;
        Due.due(call, asks.applyAsInt(asked), due);
        Due.due(call + ": what waits", asked.count(8), other.count(8));
        Due.due(call + ": what is on the tape", asked.count(9), other.count(9));
        Due.isTrue(call + " changes nothing else", Whole.of(asked).equals(Whole.of(other)));
    }

    /** Calls that answer NONE change nothing either. */
    private static void none() {
        refused("thing 0", Due.NONE, x -> x.thing(0));
        refused(RefusedTest::heavy, "gone", Due.NONE, SnowOwed::gone);
        refused(SnowOwed::new, "way", Due.NONE, x -> x.way(5, 2));
        refused(RefusedTest::newer, "most", Due.NONE, SnowOwed::most);
        refused(RefusedTest::newer, "why", Due.NONE, x -> x.why(0));
        refused("reads", Due.NONE, x -> x.reads(2));
    }

    private static SnowOwed heavy() {
        SnowOwed x = Whole.rich();
        x.rule(0, 0);
        return x;
    }
}
