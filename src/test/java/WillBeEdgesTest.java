import java.util.function.ToIntFunction;

/** The third part of the terms and promises 18 to 23 at their edges, sentence by sentence. */
public final class WillBeEdgesTest {
    public static void main(String[] args) {
        nothingChanges();
        withoutTheBound();
        zAsItIs();
        behindNone();
        goneBy();
        weight0First();
        wayLeastBroken();
        wayGreatestWeight();
        wayFirstInOrder();
        wayInPlaceOfMove();
        ledAndMost();
        warmedWithin20();
        warmedByEach();
        warmedByNumbers();
        behind();
        gone();
        way();
        most();
        warmed();
        fine();
        Due.end();
    }

    private static SnowOwed bare(int n) {
        SnowOwed x = Due.still();
        for (int i = 0; i < n; i++) {
            x.yard(0, 0, 999);
        }
        return x;
    }

    private static void same(String call, ToIntFunction<SnowOwed> asks) {
        SnowOwed asked = Whole.rich();
        SnowOwed not = Whole.rich();
        asks.applyAsInt(asked);
        Due.isTrue(call + " changes nothing", Whole.of(asked).equals(Whole.of(not)));
    }

    private static void nothingChanges() {
        Due.says(0, "(All this is only thought, from now on, z as it is, without the bound of THE DAY: nothing changes.)");
        same("behind(0, 0)", x -> x.behind(0, 0));
        same("behind(100, 2)", x -> x.behind(100, 2));
        same("gone()", SnowOwed::gone);
        same("way(1, 0)", x -> x.way(1, 0));
        same("way(5, 2)", x -> x.way(5, 2));
        same("most()", SnowOwed::most);
        same("warmed(0, 0)", x -> x.warmed(0, 0));
        same("warmed(1, 1)", x -> x.warmed(1, 1));
        same("fine(2)", x -> x.fine(2));
        same("told(1, 4)", x -> x.told(1, 4));
        same("reads(0)", x -> x.reads(0));
    }

    /** On day 9999, in STRAW, which GIVES nothing: it GOES ON by 1 then, by 0 on day 10000. */
    private static void withoutTheBound() {
        Due.says(0, "without the bound of THE DAY");
        SnowOwed x = Due.still();
        Due.toDay(x, 9999);
        for (int i = 0; i < 4; i++) {
            x.yard(5, 0, 999);
        }
        Due.due("no day more", x.days(2), 0);
        Due.due("at 0", x.ball(2), 0);
        int[] due = {0, 1, 1, 2, 2, 3};
        for (int n = 0; n < due.length; n++) {
            Due.due("behind " + n + " it is at", x.behind(n, 1), due[n]);
        }
        x.pack(0, 3);
        x.rule(0, 99);
        Due.isTrue("gone behind the last day", x.gone() > 0);
        x.rule(0, 0);
        for (int i = 0; i < 4; i++) {
            x.turns(i, 0);
        }
        x.set(0, 1, 999);
        Due.text(x, "give d-9990");
        Due.due("way goes on: 9 on day 9999, 10 on 10000", x.way(2, 1), 3 + 9 + 10);
        x.sheet(0, 0, 3);
        x.mark(0, 0, 3);
        x.mark(0, 1, 12);
        x.mark(0, 2, 12);
        Due.due("warmed goes on", x.warmed(0, 1), 0);
        Due.due("the day is as it was", x.count(1), 9999);
    }

    private static void zAsItIs() {
        Due.says(0, "z as it is");
        for (int seed : new int[] {0, 1, -1, Due.LEAST, Due.MOST}) {
            SnowOwed x = bare(1);
            x.rule(0, 99);
            x.pack(0, 900);
            x.seed(seed);
            int thought = x.behind(7, 0);
            Due.due("asked again", x.behind(7, 0), thought);
            x.days(7);
            Due.due("and so it comes", x.ball(0), thought);
        }
    }

    private static void behindNone() {
        Due.says(0, "BEHIND n DAYS: WEIGHT; where it is AT; BROKEN of all, together; how many LAYERS");
        SnowOwed x = Whole.rich();
        Due.due("weight now", x.behind(0, 0), x.ball(0));
        Due.due("at now", x.behind(0, 1), x.ball(2));
        Due.due("broken now", x.behind(0, 2), x.count(5));
        Due.due("layers now", x.behind(0, 3), x.ball(3));
        SnowOwed y = Due.still();
        y.yard(0, 100, 1);
        y.yard(0, 100, 1);
        Due.due("weight behind 2", y.behind(2, 0), 100);
        Due.due("at behind 1", y.behind(1, 1), 1);
        Due.due("at behind 2", y.behind(2, 1), 0);
        Due.due("broken of both behind 2", y.behind(2, 2), 2);
        Due.due("layers behind 2", y.behind(2, 3), 2);
        for (int what = 0; what <= 3; what++) {
            Due.due("without yards", new SnowOwed().behind(100, what), 0);
        }
        SnowOwed owners = bare(2);
        owners.set(1, 1, 4);
        owners.at(1);
        owners.keep();
        owners.pack(0, 5);
        Due.due("on a layer of the other yard", owners.behind(1, 3), 2);
        owners.back();
        owners.pack(1, 5);
        Due.due("on a layer of its own", owners.behind(1, 3), 1);
    }

    /** KILOS that go in so many days, if WARM is 1. */
    private static int thawed(int seed, int days) {
        int z = seed;
        int off = 0;
        for (int day = 0; day < days; day++) {
            z = Due.drawn(z);
            off += (z >>> 8) % 2;
        }
        return off;
    }

    private static SnowOwed ofKilos(int seed, int kilos) {
        SnowOwed x = bare(1);
        x.rule(0, 1);
        x.seed(seed);
        x.pack(0, kilos);
        return x;
    }

    private static void goneBy() {
        Due.says(0, "GONE BY: behind how many DAYS (0 .. 300) WEIGHT is 0 first");
        Due.due("without yards", new SnowOwed().gone(), 0);
        Due.due("without layers", bare(1).gone(), 0);
        int on300 = 0;
        int on301 = 0;
        for (int seed = 0; seed < 30; seed++) {
            int kilos = thawed(seed, 300);
            if (thawed(seed, 299) < kilos) {
                on300++;
                Due.due("behind 300", ofKilos(seed, kilos).gone(), 300);
            }
            if (thawed(seed, 301) > kilos) {
                on301++;
                Due.due("behind 301: not by then", ofKilos(seed, kilos + 1).gone(), Due.NONE);
            }
            int first = 1;
            while (thawed(seed, first) == 0) {
                first++;
            }
            Due.due("one kilo", ofKilos(seed, 1).gone(), first);
        }
        Due.isTrue("both were seen", on300 > 0 && on301 > 0);
    }

    private static void weight0First() {
        Due.says(0, "WEIGHT is 0 first");
        SnowOwed x = bare(2);
        x.set(1, 1, 500);
        x.pack(0, 1);
        x.rule(0, 1);
        x.seed(Due.seedFor(1, 2));
        Due.due("0 behind one day, though it grows again", x.gone(), 1);
        Due.isTrue("it grows again", x.behind(2, 0) > 0);
        x.set(0, 1, 100);
        Due.due("what is given that day counts: never", x.gone(), Due.NONE);
        SnowOwed later = bare(1);
        later.set(0, 1, 500);
        Due.due("0 already, though it grows", later.gone(), 0);
    }

    private static void wayLeastBroken() {
        Due.says(0, "with which BROKEN of all is least behind them");
        SnowOwed x = bare(3);
        x.set(0, 2, 1);
        x.set(2, 2, 1);
        x.pack(0, 40);
        Due.due("stays", x.way(1, 2), 0);
        Due.due("none", x.way(1, 0), 0);
        x.turns(0, 5);
        Due.due("in straw on an even day only 0 stays", x.way(1, 2), 1);
        Due.due("none", x.way(1, 0), 0);
        x.turns(0, 3);
        Due.due("steep: one gate at least", x.way(1, 0), 1);
        Due.due("1 of 1, 2, 3 steps", x.way(1, 2), 0);
        x.turns(0, 0);
        x.days(1);
        x.at(0);
        x.set(0, 2, 1);
        Due.due("what is broken already counts too", x.way(1, 0), 1);
        SnowOwed heavy = bare(2);
        heavy.set(0, 2, 1);
        heavy.set(1, 1, 900);
        heavy.pack(0, 40);
        Due.due("broken goes before weight", heavy.way(2, 0), 0);
        Due.due("so it stays light", heavy.way(2, 1), 40);
        Due.due("and at 0", heavy.way(2, 2), 0);
    }

    private static void wayGreatestWeight() {
        Due.says(0, "of several the one whose WEIGHT is greatest then");
        for (int best = 0; best <= 2; best++) {
            SnowOwed x = bare(3);
            x.set(best, 1, 10);
            x.set(0, 1, best == 0 ? 100 : 0);
            Due.due("the yard that gives is " + best, x.way(2, 2), 3 * best);
            Due.due("its weight", x.way(2, 1), best == 0 ? 75 : 5);
        }
        SnowOwed one = bare(3);
        one.set(1, 1, 2);
        Due.due("one kilo more is enough", one.way(2, 2), 3);
        Due.due("one kilo", one.way(2, 1), 1);
    }

    private static void wayFirstInOrder() {
        Due.says(0, "of several the first in order (-1 ahead of 0, ahead of 1, the first DAY first)");
        for (int n = 1; n <= 5; n++) {
            Due.due("all are alike, " + n + " days", bare(3).way(n, 2), 0);
        }
        // 0, 1 and 1, 0 both come to yard 3 for the third day, and nothing else gives
        SnowOwed x = bare(6);
        x.set(3, 1, 50);
        Due.due("0, 1, -1 ahead of 1, 0, -1", x.way(3, 2), 9 + 2 * 3);
        Due.due("its weight", x.way(3, 1), 25);
    }

    private static void wayInPlaceOfMove() {
        Due.says(0, "moves -1, 0 or 1, one for each of them (in place of m)");
        for (int move : new int[] {-9, -1, 0, 5, 9}) {
            SnowOwed x = bare(5);
            x.set(2, 1, 80);
            x.set(4, 1, 90);
            x.rule(2, move);
            Due.due("m " + move + ": to 2, to 4, for good", x.way(3, 2), 2 * 9 + 2 * 3);
            Due.due("its weight", x.way(3, 1), 85);
            Due.due("m is as it was", x.count(4), move);
        }
    }

    private static void ledAndMost() {
        Due.says(0, "LED to a YARD: KILOS of all LAYERS of it, together");
        SnowOwed x = bare(10);
        Due.due("of none", x.told(0, 7), 0);
        x.pack(9, 4);
        x.pack(0, 2);
        x.pack(9, 3);
        Due.due("two layers", x.told(9, 7), 7);
        Due.due("one layer", x.told(0, 7), 2);
        Due.due("no layer", x.told(5, 7), 0);
        Due.says(0, "MOST: the YARD to which most KILOS are LED; of several the least");
        Due.due("the last yard", x.most(), 9);
        x.pack(0, 4);
        Due.due("one kilo less is not most", x.most(), 9);
        x.pack(0, 1);
        Due.due("of two the least", x.most(), 0);
        x.pack(4, 8);
        Due.due("one kilo more", x.most(), 4);
        x.pack(9, 1);
        Due.due("of two the least", x.most(), 4);
        for (int yard = 0; yard < 10; yard++) {
            SnowOwed one = bare(10);
            one.pack((yard + 1) % 10, 2);
            one.pack(yard, 3);
            Due.due("each can be", one.most(), yard);
        }
    }

    /** A heavy ball alone: behind a day it is lighter by the rest of the draw. */
    private static SnowOwed cold(int seed) {
        SnowOwed x = bare(1);
        x.pack(0, 900);
        x.seed(seed);
        return x;
    }

    private static void warmedWithin20() {
        Due.says(0, "WARMED by a SHEET: the WARM 0 .. 20");
        // by WARM 20 this draw takes 20 kilos, by WARM 21 it would take 21
        int seed = 0;
        while ((Due.drawn(seed) >>> 8) % 462 != 461) {
            seed++;
        }
        SnowOwed x = cold(seed);
        x.sheet(0, 1, 2);
        x.mark(0, 0, 900);
        x.mark(0, 1, 900);
        Due.due("nothing thawed", x.warmed(0, 0), 0);
        Due.due("that is explained", x.warmed(0, 1), 0);
        x.mark(0, 1, 880);
        Due.due("told by 20", x.warmed(0, 0), 20);
        Due.due("that is explained", x.warmed(0, 1), 0);
        x.mark(0, 1, 879);
        Due.due("told by 21", x.warmed(0, 0), 20);
        Due.due("that is not explained", x.warmed(0, 1), 1);
    }

    /** So many days are told that no other WARM explains them as well. */
    private static void warmedByEach() {
        Due.says(0, "WARMED by a SHEET: the WARM 0 .. 20 with which");
        for (int warm = 0; warm <= 20; warm++) {
            SnowOwed x = cold(3);
            x.rule(0, warm);
            x.sheet(1, 0, 24);
            for (int k = 0; k < 24; k++) {
                x.mark(1, k, x.behind(k, 0));
            }
            x.rule(0, 99);
            Due.due("told by " + warm, x.warmed(1, 0), warm);
            Due.due("that is explained", x.warmed(1, 1), 0);
        }
    }

    private static void warmedByNumbers() {
        Due.says(0, "with which WEIGHT behind k DAYS and places k that are numbers (k from 0 on) differ least (signs left out), together; of several the least");
        SnowOwed x = cold(5);
        x.sheet(0, 1, 1);
        x.mark(0, 0, 905);
        Due.due("place 0 is now, whatever the warm: the least", x.warmed(0, 0), 0);
        Due.due("5 too many", x.warmed(0, 1), 5);
        x.mark(0, 0, 895);
        Due.due("5 too few", x.warmed(0, 1), 5);
        x.mark(0, 0, -99999);
        Due.due("far below", x.warmed(0, 1), 100899);
        x.mark(0, 0, Due.NONE);
        Due.due("no number: the least", x.warmed(0, 0), 0);
        Due.due("no number: no difference", x.warmed(0, 1), 0);
        x.sheet(0, 0, 0);
        Due.due("no places: the least", x.warmed(0, 0), 0);
        Due.due("no places: no difference", x.warmed(0, 1), 0);
        for (int seed = 0; seed < 12; seed++) {
            SnowOwed y = cold(seed);
            int[] told = {Due.NONE, 893, Due.NONE, 870 + seed, 900};
            y.sheet(3, 1, 5);
            for (int k = 0; k < 5; k++) {
                y.mark(3, k, told[k]);
            }
            int best = 0;
            int least = Due.MOST;
            for (int warm = 0; warm <= 20; warm++) {
                y.rule(0, warm);
                int sum = 0;
                for (int k = 0; k < 5; k++) {
                    sum += told[k] == Due.NONE ? 0 : Math.abs(told[k] - y.behind(k, 0));
                }
                best = sum < least ? warm : best;
                least = Math.min(least, sum);
            }
            y.rule(0, 99);
            Due.due("warmed", y.warmed(3, 0), best);
            Due.due("differences", y.warmed(3, 1), least);
        }
        SnowOwed longest = cold(8);
        longest.sheet(0, 0, 24);
        for (int k = 0; k < 24; k++) {
            longest.mark(0, k, 900);
        }
        Due.due("24 places: no thaw", longest.warmed(0, 0), 0);
        longest.mark(0, 23, 899);
        Due.due("the last place counts", longest.warmed(0, 1), 1);
    }

    private static void behind() {
        Due.says(18, "BEHIND n (0 .. 100) DAYS: what 0 WEIGHT, 1 AT, 2 BROKEN of all, 3 how many LAYERS");
        SnowOwed x = bare(3);
        Due.due("behind 100", x.behind(100, 1), 1);
        Due.due("behind 99", x.behind(99, 1), 0);
        Due.due("behind 0", x.behind(0, 1), 0);
        Due.says(18, "BAD");
        for (int n : new int[] {Due.LEAST, -1, 101, Due.MOST}) {
            Due.due("behind " + n, x.behind(n, 0), Due.BAD);
            Due.due("behind " + n + " without yards", new SnowOwed().behind(n, 0), Due.BAD);
        }
        for (int what : new int[] {Due.LEAST, -1, 4, Due.MOST}) {
            Due.due("what " + what, x.behind(0, what), Due.BAD);
        }
    }

    private static void gone() {
        Due.says(19, "GONE BY");
        Due.due("gone already", new SnowOwed().gone(), 0);
        Due.says(19, "NONE: not by then");
        SnowOwed x = bare(1);
        x.pack(0, 1);
        Due.due("nothing thaws", x.gone(), Due.NONE);
    }

    private static void way() {
        Due.says(20, "WAY of n (1 .. 5): what 0 BROKEN of all then, 1 WEIGHT then, 2 the moves (each and 1, as digits to the base of 3, the first DAY first)");
        SnowOwed x = bare(10);
        for (int yard = 2; yard <= 8; yard += 2) {
            x.set(yard, 1, 20 * yard);
        }
        int[] moves = {0, 6, 24, 78, 240};
        int[] weights = {0, 20, 60, 120, 200};
        for (int n = 1; n <= 5; n++) {
            Due.due("broken behind " + n, x.way(n, 0), 0);
            Due.due("weight behind " + n, x.way(n, 1), weights[n - 1]);
            Due.due("1, as often as it is of use, then -1", x.way(n, 2), moves[n - 1]);
        }
        Due.says(20, "BAD; NONE: there are no YARDS");
        for (int n : new int[] {Due.LEAST, -1, 0, 6, Due.MOST}) {
            Due.due("way " + n, x.way(n, 0), Due.BAD);
            Due.due("bad ahead of none", new SnowOwed().way(n, 0), Due.BAD);
        }
        for (int what : new int[] {Due.LEAST, -1, 3, Due.MOST}) {
            Due.due("what " + what, x.way(1, what), Due.BAD);
            Due.due("bad ahead of none", new SnowOwed().way(1, what), Due.BAD);
        }
        for (int what = 0; what <= 2; what++) {
            Due.due("no yards", new SnowOwed().way(5, what), Due.NONE);
        }
    }

    private static void most() {
        Due.says(21, "MOST");
        SnowOwed x = bare(1);
        x.pack(0, 1);
        Due.due("a layer", x.most(), 0);
        x = bare(1);
        Due.says(21, "NONE: there are no LAYERS");
        Due.due("no layers", x.most(), Due.NONE);
        Due.due("no yards", new SnowOwed().most(), Due.NONE);
        x.pack(0, 1);
        Due.due("a layer", x.most(), 0);
        x.rule(0, 1);
        x.seed(Due.seedFor(1, 2));
        x.days(1);
        Due.due("no layers any more", x.most(), Due.NONE);
    }

    private static void warmed() {
        Due.says(22, "WARMED by a SHEET: what 0 the WARM, 1 the differences, together");
        SnowOwed x = new SnowOwed();
        x.sheet(3, 1, 2);
        x.mark(3, 0, 99999);
        x.mark(3, 1, -99999);
        Due.due("without yards", x.warmed(3, 0), 0);
        Due.due("together", x.warmed(3, 1), 199998);
        Due.says(22, "BAD; NOTHING");
        for (int sheet : new int[] {Due.LEAST, -1, 4, Due.MOST}) {
            Due.due("sheet " + sheet, x.warmed(sheet, 0), Due.BAD);
        }
        for (int what : new int[] {Due.LEAST, -1, 2, Due.MOST}) {
            Due.due("what " + what, x.warmed(3, what), Due.BAD);
            Due.due("what " + what + " of a missing one", x.warmed(0, what), Due.BAD);
        }
        Due.due("missing", x.warmed(0, 0), Due.NOTHING);
    }

    private static void fine() {
        Due.says(23, "What fine gives for a YARD");
        SnowOwed x = bare(2);
        Due.due("without a text: broken", x.fine(1), 0);
        Due.text(x, "fine 0-8*8*8*8*8*8*8*8*8*8*2");
        Due.due("it is not held", x.fine(1), Due.LEAST);
        Due.says(23, "BAD");
        for (int yard : new int[] {Due.LEAST, -1, 2, Due.MOST}) {
            Due.due("yard " + yard, x.fine(yard), Due.BAD);
        }
        Due.due("no yards", new SnowOwed().fine(0), Due.BAD);
    }
}
