import java.math.BigInteger;
import java.util.function.Supplier;

/** The boundary cases of YEARS and of the end of TIME, sentence by sentence (promise 17; 11, 21 to 28, 34, 40 at 9,999). */
public final class BoundsYearsTest {
    private static final int NONE = Sentences.NONE;
    private static final int LAST = 9999;
    private static final int[] HEAT_AND_KNIVES = {10, 10};
    private static final Sentences DOC = new Sentences("BoundsYearsTest");

    public static void main(String[] args) {
        months();
        refused();
        heatDraws();
        knifeDraws();
        pried();
        draws();
        acts();
        endOfTime();
        endOfYears();
        runAtTheEnd();
        beyondTheEnd();
        beyondTheEndByWax();
        DOC.ends();
    }

    /** The draws of the document over numbers without bounds, cut to 64 bits by hand. */
    private static final class Numbers {
        private static final BigInteger ROUND = BigInteger.ONE.shiftLeft(64);
        private BigInteger x;

        Numbers(long seed) {
            x = BigInteger.valueOf(seed).mod(ROUND);
        }

        int draw(int j) {
            x = x.multiply(new BigInteger("6364136223846793005")).add(new BigInteger("1442695040888963407")).mod(ROUND);
            return x.shiftRight(33).mod(BigInteger.valueOf(j)).intValue();
        }
    }

    /** The least seed by which draws of these are those. */
    private static long seedOf(int[] of, int... due) {
        for (long seed = 0; seed < 1000000; seed++) {
            Numbers numbers = new Numbers(seed);
            int met = 0;
            while (met < of.length && numbers.draw(of[met]) == due[met]) {
                met++;
            }
            if (met == of.length) {
                return seed;
            }
        }
        throw new IllegalStateException("no such seed");
    }

    private static void months() {
        DOC.says("17: n of 1 .. 60: TIME", () -> {
            WaxReign x = Check.kingdom("t;r");
            DOC.due("years(1)", x.years(1, 1), 1);
            DOC.due("years(60)", x.years(60, 1), 61);
            DOC.due("time", x.count(6), 61);
        });
        DOC.says("17: each MONTH stands in the LOG", () -> {
            WaxReign x = Check.kingdom("t;r");
            x.years(59, 1);
            DOC.due("log", x.count(10), 59);
            x.years(60, 1);
            DOC.due("60 at most", x.count(10), 60);
        });
        DOC.says("17: BEES come in each MONTH", () -> {
            WaxReign x = Check.kingdom("sw5b3;t;r");
            x.years(7, 1);
            DOC.due("wax", x.rule(0), 26);
        });
    }

    private static void refused() {
        Supplier<WaxReign> realm = () -> {
            WaxReign x = Check.kingdom("sw9;to1w2d5;t;rk4;rk3");
            x.knives(9);
            x.image();
            x.month();
            return x;
        };
        DOC.says("17: NONE: no KINGDOM", () -> DOC.refuses("years(1)", WaxReign::new, x -> x.years(1, 1), NONE));
        DOC.says("17: NONE: out of bounds", () -> {
            for (int n : new int[] {0, -1, 61, Integer.MIN_VALUE, Integer.MAX_VALUE}) {
                DOC.refuses("years(" + n + ")", realm, x -> x.years(n, 1), NONE);
            }
        });
    }

    private static int heatBehind(int heat, int drawn) {
        WaxReign x = Check.kingdom("sh" + heat + ";t;r");
        x.years(1, seedOf(new int[] {10}, drawn));
        return x.rule(1);
    }

    private static void heatDraws() {
        DOC.says("a draw of 10: 5 or more: HEAT 1 more", () -> {
            DOC.due("by 5", heatBehind(10, 5), 11);
            DOC.due("by 9", heatBehind(10, 9), 11);
        });
        DOC.says("a draw of 10: else 1 less", () -> {
            DOC.due("by 0", heatBehind(10, 0), 9);
            DOC.due("by 4", heatBehind(10, 4), 9);
        });
        DOC.says("HEAT 40 at most", () -> {
            DOC.due("39 and 1", heatBehind(39, 5), 40);
            DOC.due("40 and 1", heatBehind(40, 5), 40);
            DOC.due("40 less 1", heatBehind(40, 4), 39);
        });
        DOC.says("HEAT 0 at least", () -> {
            DOC.due("1 less 1", heatBehind(1, 4), 0);
            DOC.due("0 less 1", heatBehind(0, 4), 0);
            DOC.due("0 and 1", heatBehind(0, 5), 1);
        });
        DOC.says("HEAT is drawn ahead of the MONTH", () -> {
            WaxReign x = Check.kingdom("sh17;td4h17s2w1;r;r");
            x.years(1, seedOf(new int[] {10}, 7));
            DOC.due("warmth", x.log(0, 0), 18);
            DOC.due("melted", x.log(0, 1), 1);
        });
    }

    /** Whether the second RING PRIES the one THING, the draw of KNIVES being so. */
    private static boolean isPried(int knives, int drawn) {
        WaxReign x = Check.kingdom("sh0;tw1;r;rk9");
        x.knives(knives);
        x.years(1, seedOf(new int[] {10, 10, 1, 2}, 3, drawn, 0, 1));
        return x.all(8) == 1;
    }

    private static void knifeDraws() {
        DOC.says("a draw of 10 below KNIVES: none by KNIVES of 0", () -> DOC.due("0 by 0", isPried(0, 0), false));
        DOC.says("a draw of 10 below KNIVES: 0 alone by KNIVES of 1", () -> {
            DOC.due("0 by 1", isPried(1, 0), true);
            DOC.due("1 by 1", isPried(1, 1), false);
        });
        DOC.says("a draw of 10 below KNIVES: all but 9 by KNIVES of 9", () -> {
            DOC.due("0 by 9", isPried(9, 0), true);
            DOC.due("8 by 9", isPried(9, 8), true);
            DOC.due("9 by 9", isPried(9, 9), false);
        });
        DOC.says("THING and RING are drawn only if it is below KNIVES", () -> {
            // Were they drawn, HEAT of the second MONTH would go by the 3.
            long seed = seedOf(new int[] {10, 10, 10, 10, 10}, 7, 9, 7, 9, 3);
            WaxReign x = Check.kingdom("sh10;tw1;r;rk9");
            x.knives(9);
            x.years(2, seed);
            DOC.due("heat", x.rule(1), 12);
        });
        DOC.says("a draw of how many THINGS, then a draw of how many RINGS", () -> {
            WaxReign x = Check.kingdom("sh0;tw1;tw1;tw1;rk9;rk9;rk9;rk9;rk9");
            x.knives(1);
            x.years(1, seedOf(new int[] {10, 10, 3, 5}, 3, 0, 2, 4));
            DOC.due("known to the last ring", x.known(4), 4);
            WaxReign y = Check.kingdom("sh0;to1w1;tw1;tw1;rk9;rk9;rk9;rk9;rk9");
            y.knives(1);
            y.years(1, seedOf(new int[] {10, 10, 3, 5}, 3, 0, 0, 0));
            DOC.due("known to the first ring", y.known(0), 7);
        });
    }

    private static void pried() {
        DOC.says("it PRIES, if it can be: not its own", () -> {
            WaxReign x = Check.kingdom("sh0;tw1;rk9;rk9");
            x.knives(1);
            DOC.due("the month goes by", x.years(1, seedOf(new int[] {10, 10, 1, 2}, 3, 0, 0, 0)), 1);
            DOC.due("forged", x.all(8), 0);
            DOC.due("known", x.thing(0, 5), 1);
        });
        DOC.says("it PRIES, if it can be: not an OPEN one", () -> {
            WaxReign x = Check.kingdom("sh0;tw0;rk0;rk0");
            x.knives(1);
            DOC.due("the month goes by", x.years(1, seedOf(new int[] {10, 10, 1, 2}, 3, 0, 0, 1)), 1);
            DOC.due("scars", x.ring(1, 1), 0);
            DOC.due("known", x.thing(0, 5), 1);
        });
        DOC.says("it PRIES ahead of the MONTH: what it leaves OPEN does not MELT", () -> {
            WaxReign x = Check.kingdom("sh40;tw1d9;rk0;rk0;rk0");
            x.knives(1);
            x.years(1, seedOf(new int[] {10, 10, 1, 3}, 3, 0, 0, 1));
            DOC.due("melted", x.log(0, 1), 0);
            DOC.due("shame", x.count(7), 0);
            DOC.due("known", x.thing(0, 5), 3);
            DOC.due("a scar", x.ring(1, 1), 1);
        });
        DOC.says("where it can't be both draws are taken all the same", () -> {
            long seed = seedOf(new int[] {10, 10, 1, 2, 10, 10}, 7, 0, 0, 0, 7, 9);
            WaxReign x = Check.kingdom("sh10;tw1;rk9;rk9");
            x.knives(1);
            x.years(2, seed);
            DOC.due("heat", x.rule(1), 12);
        });
    }

    /** The same by hand, from draws that are cut to 64 bits by hand. */
    private static void drawnAs(long seed, int knives, int months) {
        String text = "sh20;to1h40w2s0;th40w1s0;tw0;rk4;rk3;rk1";
        WaxReign x = Check.kingdom(text);
        WaxReign y = Check.kingdom(text);
        x.knives(knives);
        Numbers numbers = new Numbers(seed);
        for (int i = 0; i < months; i++) {
            y.heat(y.rule(1) + (numbers.draw(10) >= 5 ? 1 : -1));
            if (numbers.draw(10) < knives) {
                int thing = numbers.draw(3);
                int ring = numbers.draw(3);
                y.pry(thing, ring);
            }
            y.month();
        }
        DOC.due("years by " + seed, x.years(months, seed), months);
        for (int what = 3; what <= 5; what++) {
            for (int thing = 0; thing < 3; thing++) {
                DOC.due("thing by " + seed, x.thing(thing, what), y.thing(thing, what));
            }
        }
        for (int i = 0; i < months; i++) {
            DOC.due("warmth by " + seed, x.log(i, 0), y.log(i, 0));
        }
        DOC.due("forged by " + seed, x.all(8), y.all(8));
    }

    private static void draws() {
        DOC.says("x is of 64 bits, going round", () -> {
            for (long seed : new long[] {0, 1, -1, Long.MAX_VALUE, Long.MIN_VALUE, 1L << 33, 0x7FFFFFFFL, 0xFFFFFFFFL, 1L << 32}) {
                drawnAs(seed, 0, 60);
                drawnAs(seed, 9, 60);
            }
        });
        DOC.says("x is shifted right by 33, without sign", () -> {
            int high = 0;
            for (long seed = 0; seed < 40; seed++) {
                long x = seed * 6364136223846793005L + 1442695040888963407L;
                high += x < 0 ? 1 : 0;
                drawnAs(seed, 5, 1);
            }
            DOC.due("some with the highest bit", high > 5 && high < 35, true);
        });
        DOC.says("a draw may be of one: it is 0, and x goes on", () -> {
            WaxReign x = Check.kingdom("sh10;tw1;r");
            x.knives(1);
            x.years(2, seedOf(new int[] {10, 10, 1, 1, 10, 10}, 7, 0, 0, 0, 7, 9));
            DOC.due("heat", x.rule(1), 12);
        });
        DOC.says("x is the seed at first, each time", () -> {
            WaxReign x = Check.kingdom("sh10;tw0;r");
            long seed = seedOf(HEAT_AND_KNIVES, 8, 8);
            for (int i = 1; i <= 5; i++) {
                x.years(1, seed);
                DOC.due("heat", x.rule(1), 10 + i);
            }
        });
    }

    private static void acts() {
        DOC.says("each MONTH with what is ahead of it is one ACT", () -> {
            WaxReign x = Check.kingdom("sh0;tw9d5;rk3;rk3");
            x.knives(1);
            x.years(1, seedOf(new int[] {10, 10, 1, 2}, 7, 0, 0, 1));
            DOC.due("a scar", x.ring(1, 1), 1);
            DOC.due("one act", x.count(11), 1);
            DOC.due("undone", x.undo(), 0);
            DOC.due("time", x.count(6), 0);
            DOC.due("heat", x.rule(1), 0);
            DOC.due("no scar", x.ring(1, 1), 0);
            DOC.due("wax on it", x.thing(0, 4), 9);
            DOC.due("log", x.count(10), 0);
        });
        DOC.says("40 MONTHS of YEARS can be UNDONE, of 41 the first drops out", () -> {
            for (int n : new int[] {39, 40, 41, 60}) {
                WaxReign x = Check.kingdom("t;r");
                x.years(n, 5);
                DOC.due("acts of " + n, x.count(11), Math.min(40, n));
                for (int left = Math.min(40, n) - 1; left >= 0; left--) {
                    DOC.due("undo", x.undo(), left);
                }
                DOC.due("time", x.count(6), Math.max(0, n - 40));
                DOC.due("no more", x.undo(), NONE);
            }
        });
    }

    /** Brought to that TIME; the one THING does not MELT on the way; HEAT is 10 at last. */
    private static WaxReign at(int time) {
        WaxReign x = Check.kingdom("sw9b1;th40w9s0d5;r;r");
        for (int left = time; left > 0; left -= 60) {
            x.years(Math.min(60, left), 5);
        }
        x.heat(10);
        return x;
    }

    private static void endOfTime() {
        DOC.says("11: TIME 9,999 at most", () -> {
            WaxReign x = at(LAST - 1);
            DOC.due("the last month", x.month(), 0);
            DOC.due("time", x.count(6), LAST);
            DOC.due("log", x.log(0, 0), 14);
        });
        DOC.says("11: NONE: beyond 9,999", () -> DOC.refuses("month", () -> at(LAST), WaxReign::month, NONE));
        DOC.says("9,999 is MONTH 3", () -> {
            WaxReign x = at(LAST);
            x.law(Check.put(x, 1, "y:m"));
            DOC.due("m", x.thing(0, 6), 3);
            DOC.due("warmth", x.warmth(0), 16);
            DOC.due("coolest", x.all(9), 9);
        });
        DOC.says("at 9,999 other ACTS can be, and TIME can be UNDONE", () -> {
            WaxReign x = at(LAST);
            DOC.due("open", x.open(0) >= 9, true);
            DOC.due("seal", x.seal(0, 1), 1);
            DOC.due("pry", x.pry(0, 1), 1);
            DOC.due("carry", x.carry(0, 3), 0);
            DOC.due("heat", x.heat(11), 10);
            for (int undone = 0; undone < 40 && x.count(6) == LAST; undone++) {
                x.undo();
            }
            DOC.due("time", x.count(6), LAST - 1);
            DOC.due("a month", x.month() >= 0, true);
        });
        DOC.says("41, 42: an IMAGE at 9,999", () -> {
            WaxReign x = at(LAST);
            DOC.due("image", x.image(), LAST);
            x.undo();
            DOC.due("back", x.back(), LAST);
            DOC.due("log", x.count(10), 60);
        });
    }

    private static void endOfYears() {
        DOC.says("17: up to 9,999", () -> {
            DOC.due("60 from 9,939", at(LAST - 60).years(60, 1), LAST);
            DOC.due("1 from 9,998", at(LAST - 1).years(1, 1), LAST);
        });
        DOC.says("17: NONE: beyond 9,999", () -> {
            DOC.refuses("60 from 9,940", () -> at(LAST - 59), x -> x.years(60, 1), NONE);
            DOC.refuses("2 from 9,998", () -> at(LAST - 1), x -> x.years(2, 1), NONE);
            DOC.refuses("1 from 9,999", () -> at(LAST), x -> x.years(1, 1), NONE);
        });
    }

    private static WaxReign reigned(int time) {
        WaxReign x = at(time);
        Check.put(x, 2, "m;m");
        return x;
    }

    private static void runAtTheEnd() {
        DOC.says("TIME does not go on behind 9,999 in RUN", () -> {
            DOC.refuses("from 9,997", () -> reigned(LAST - 2), x -> x.run(0, 0), NONE);
            DOC.refuses("from 9,998", () -> reigned(LAST - 1), x -> x.run(0, 0), 1);
            DOC.refuses("from 9,999", () -> reigned(LAST), x -> x.run(0, 0), 0);
        });
        DOC.says("22: nor in DO", () -> {
            DOC.due("from 9,997", reigned(LAST - 2).perform(0), 2);
            DOC.due("from 9,998", reigned(LAST - 1).perform(0), 1);
            DOC.refuses("from 9,999", () -> reigned(LAST), x -> x.perform(0), 0);
        });
    }

    private static WaxReign lastUnder(String law) {
        WaxReign x = at(LAST);
        x.law(Check.put(x, 1, law));
        return x;
    }

    /** From 9,999 on WARMTH is 16, 18, 20, 22, 20, 18, .. */
    private static void beyondTheEnd() {
        DOC.says("TIME goes on behind 9,999: WARMTH", () -> {
            WaxReign x = at(LAST);
            int[] due = {16, 18, 20, 22, 20, 18, 16, 14, 12, 10, 12, 14};
            for (int n = 0; n <= 60; n++) {
                DOC.due("warmth(" + n + ")", x.warmth(n), due[n % 12]);
            }
        });
        DOC.says("TIME goes on behind 9,999: LASTS", () -> {
            int[][] holdsAndLasts = {{15, 1}, {16, 2}, {17, 2}, {21, 4}, {22, NONE}};
            for (int[] of : holdsAndLasts) {
                DOC.due("by " + of[0], lastUnder("y:" + of[0]).lasts(0), of[1]);
            }
            DOC.due("its month goes on, too", lastUnder("y:m*6").lasts(0), 10);
        });
        DOC.says("TIME goes on behind 9,999: ORDER", () -> {
            DOC.due("by 21", lastUnder("y:21").order(0), 0);
            DOC.due("by 21", lastUnder("y:21").order(1), 1);
            DOC.due("by 22", lastUnder("y:22").order(1), 0);
        });
        DOC.says("TIME goes on behind 9,999: DEALT", () -> {
            DOC.due("in 3", lastUnder("y:21").dealt(3, 1), 0);
            DOC.due("in 4", lastUnder("y:21").dealt(4, 1), 5);
        });
        DOC.says("TIME goes on behind 9,999: ODDS", () -> {
            DOC.due("in 3", lastUnder("y:21").odds(0, 3, 0), 1000000000);
            DOC.due("in 4", lastUnder("y:21").odds(0, 4, 0), 0);
            DOC.due("by half in one", lastUnder("y:22").odds(0, 1, 50), 1000000000);
            DOC.due("by half in two", lastUnder("y:22").odds(0, 2, 50), 500000000);
        });
    }

    private static void beyondTheEndByWax() {
        Supplier<WaxReign> thin = () -> {
            WaxReign x = at(LAST);
            x.open(0);
            x.seal(0, 1);
            x.law(Check.put(x, 1, "y:w*8"));
            return x;
        };
        DOC.says("TIME goes on behind 9,999: LEAST", () -> {
            DOC.due("in one", thin.get().least(1, 1, NONE), 1);
            DOC.due("in four", thin.get().least(1, 4, NONE), 2);
            DOC.due("in 24", thin.get().least(1, 24, NONE), 2);
        });
        DOC.says("TIME goes on behind 9,999: PACK", () -> {
            DOC.due("in 24", thin.get().pack(24, 0), 1);
            DOC.due("depth", thin.get().pack(24, 1), 5);
            DOC.due("not by nothing", lastUnder("y:21").pack(4, 1), 0);
            DOC.due("for three", lastUnder("y:21").pack(3, 1), 5);
        });
        DOC.says("TIME goes on behind 9,999: HARDEN", () -> {
            DOC.due("in one", lastUnder("y:h-30").harden(0, 1), 6);
            DOC.due("in four", lastUnder("y:h-30").harden(0, 4), 12);
            DOC.due("in 24", lastUnder("y:h-30").harden(0, 24), 12);
        });
        DOC.says("what is apart changes nothing at 9,999", () -> {
            DOC.refuses("lasts", () -> at(LAST), x -> x.lasts(0), NONE);
            DOC.refuses("order", () -> at(LAST), x -> x.order(1), 0);
        });
    }
}
