import java.util.function.Supplier;
import java.util.function.ToLongFunction;

/** The boundary cases of what is told apart, sentence by sentence (promises 23 to 40). */
public final class BoundsForecastTest {
    private static final int NONE = Sentences.NONE;
    private static final int HIDDEN = Sentences.HIDDEN;
    private static final int LEAST = Integer.MIN_VALUE;
    private static final int MOST = Integer.MAX_VALUE;
    private static final int ALL_PARTS = 1000000000;
    private static final Sentences DOC = new Sentences("BoundsForecastTest");

    public static void main(String[] args) {
        warmth();
        lasts();
        least();
        leastOnOne();
        leastRefused();
        pack();
        packRefused();
        order();
        dealt();
        dealtRefused();
        noted();
        who();
        ask();
        game();
        gameRefused();
        rests();
        odds();
        oddsRefused();
        foremostThings();
        foremostRings();
        allElse();
        known();
        spare();
        openers();
        tells();
        harden();
        eachOfSeven();
        waxOfEachOfSeven();
        smallBehindLarge();
        apart();
        DOC.ends();
    }

    /** Four THINGS, the last one OPEN, three RINGS; an IMAGE, ACTS, something NOTED, a TIME that is not 0. */
    private static WaxReign realm() {
        WaxReign x = Check.kingdom("sw9h8b1;to1h14d5s2w2;th9d4s1w1;th20d7s5w1;th30d2w0;rk4;rk3;rk1");
        x.month();
        x.image();
        x.heat(7);
        x.noted(2, 0, true);
        return x;
    }

    private static void refuses(String call, ToLongFunction<WaxReign> asks) {
        DOC.refuses(call, BoundsForecastTest::realm, asks, NONE);
    }

    private static void refusesWithoutKingdom(String call, ToLongFunction<WaxReign> asks, int due) {
        DOC.refuses(call + " without a kingdom", () -> {
            WaxReign x = new WaxReign();
            x.law(Check.put(x, 1, "y:1"));
            return x;
        }, asks, due);
    }

    private static void warmth() {
        DOC.says("23: n of 0 .. 60 (0: now)", () -> {
            WaxReign x = Check.kingdom("sh7;t;r");
            x.month();
            int[] due = {9, 11, 13, 15, 17, 19, 17, 15, 13, 11, 9, 7};
            for (int n = 0; n <= 60; n++) {
                DOC.due("warmth(" + n + ")", x.warmth(n), due[n % 12]);
            }
        });
        DOC.says("23: NONE: no KINGDOM", () -> {
            refusesWithoutKingdom("warmth(0)", x -> x.warmth(0), NONE);
            refusesWithoutKingdom("warmth(60)", x -> x.warmth(60), NONE);
        });
        DOC.says("23: NONE: out of bounds", () -> {
            for (int n : new int[] {-1, 61, LEAST, MOST}) {
                refuses("warmth(" + n + ")", x -> x.warmth(n));
            }
        });
    }

    private static void lasts() {
        DOC.says("24: it is OPEN: 0", () -> DOC.due("lasts", Check.kingdom("tw0;r").lasts(0), 0));
        DOC.says("24: 1: in the first MONTH that goes by", () -> {
            DOC.due("melts now", Check.kingdom("sh10;th7s0w1;r").lasts(0), 1);
            DOC.due("melts next", Check.kingdom("sh10;th8s0w1;r").lasts(0), 2);
        });
        DOC.says("24: in the last MONTH of a year", () -> {
            DOC.due("at month 0", Check.kingdomUnder("y:m=11?0;y:99", "sh1;t;r").lasts(0), 12);
            WaxReign x = Check.kingdomUnder("y:m=4?0;y:99", "sh1;t;r");
            for (int i = 0; i < 4; i++) {
                x.month();
            }
            DOC.due("it is this one", x.lasts(0), 1);
            WaxReign y = Check.kingdomUnder("y:m=4?0;y:99", "sh1;tw0;r");
            for (int i = 0; i < 5; i++) {
                y.month();
            }
            y.seal(0, 1);
            DOC.due("it was the last one", y.lasts(0), 12);
        });
        DOC.says("24: it MELTS by hand in just so many", () -> {
            WaxReign x = Check.kingdom("sh10;th15s0w1;r");
            int lasts = x.lasts(0);
            DOC.due("lasts", lasts, 5);
            for (int i = 1; i < lasts; i++) {
                DOC.due("month " + i, x.month(), 0);
                DOC.due("then", x.lasts(0), lasts - i);
            }
            DOC.due("the last", x.month(), 1);
        });
        DOC.says("24: NONE: not within 60", () -> {
            DOC.due("22 holds 22", Check.kingdom("sh10;th20s0w1;r").lasts(0), NONE);
            DOC.due("21 does not", Check.kingdom("sh10;th19s0w1;r").lasts(0), 7);
        });
        DOC.says("24: NONE: no such THING", () -> {
            for (int thing : new int[] {-1, 4, 7, LEAST, MOST}) {
                refuses("lasts(" + thing + ")", x -> x.lasts(thing));
            }
            refusesWithoutKingdom("lasts(0)", x -> x.lasts(0), NONE);
        });
    }

    private static void least() {
        DOC.says("25: 9 on it at most", () -> {
            DOC.due("18 by 9", Check.kingdom("sh18;th0s0w1;r").least(1, 1, NONE), 8);
            DOC.due("9 are there", Check.kingdom("sh18;th0s0w9;r").least(1, 1, NONE), 0);
        });
        DOC.says("25: NONE: not by nine on one of these", () -> {
            DOC.due("19 by 9", Check.kingdom("sh19;th0s0w1;r").least(1, 1, NONE), NONE);
            DOC.due("9 are there", Check.kingdom("sh19;th0s0w9;r").least(1, 1, NONE), NONE);
            WaxReign x = Check.kingdom("sh19;th0s0w1;th40;r");
            DOC.due("both", x.least(3, 1, NONE), NONE);
            DOC.due("on it", x.least(3, 1, 0), NONE);
            DOC.due("on the other one", x.least(3, 1, 1), NONE);
            DOC.due("the other one alone", x.least(2, 1, NONE), 0);
        });
        DOC.says("25: n of 1 .. 24", () -> {
            WaxReign x = Check.kingdom("sh10;th8s0w1;r");
            DOC.due("1", x.least(1, 1, NONE), 0);
            DOC.due("2", x.least(1, 2, NONE), 1);
            DOC.due("7", x.least(1, 7, NONE), 6);
            DOC.due("24", x.least(1, 24, NONE), 6);
            WaxReign late = Check.kingdomUnder("y:m=11&w=1?0;y:99", "sh1;t;r");
            DOC.due("11", late.least(1, 11, NONE), 0);
            DOC.due("12", late.least(1, 12, NONE), 1);
            DOC.due("24", late.least(1, 24, NONE), 1);
        });
        DOC.says("25: a set of all seven, and of the last of them", () -> {
            WaxReign x = Check.kingdom("sw0h18;th0s0;th0s0;th0s0;th0s0;th0s0;th0s0;th0s0;r");
            DOC.due("all", x.least(127, 1, NONE), 56);
            DOC.due("the last", x.least(64, 1, NONE), 8);
            DOC.due("on it", x.least(127, 1, 6), 8);
        });
        DOC.says("25: WAX there is now is no bound", () -> {
            DOC.due("none is there", Check.kingdom("sw0h18;th0s0w1;r").least(1, 1, NONE), 8);
        });
        DOC.says("25: one of these that is OPEN: 0", () -> {
            WaxReign x = Check.kingdom("sh30;tw0h0;th20s0w1;r");
            DOC.due("alone", x.least(1, 24, NONE), 0);
            DOC.due("on it", x.least(1, 24, 0), 0);
            DOC.due("with another", x.least(3, 1, NONE), 4);
            DOC.due("on it", x.least(3, 1, 0), 0);
        });
    }

    private static void leastOnOne() {
        DOC.says("25: on a THING the least", () -> {
            WaxReign x = Check.kingdomUnder("y:w=3?40;y:w=5?40;y:0", "sh10;tw2;tw4;tw6;r");
            DOC.due("of the first", x.least(3, 24, 0), 1);
            DOC.due("of the second", x.least(3, 24, 1), 1);
            DOC.due("together", x.least(3, 24, NONE), 2);
            DOC.due("too much is on the third", x.least(4, 24, NONE), NONE);
        });
        DOC.says("25: just so much WAX keeps it by hand, one less does not", () -> {
            int due = Check.kingdom("sw20h10;th8s0w1;r").least(1, 12, NONE);
            for (int wax = due - 1; wax <= due; wax++) {
                WaxReign x = Check.kingdom("sw20h10;th8s0w1;r");
                x.seal(0, wax);
                int melted = 0;
                for (int i = 0; i < 12; i++) {
                    melted += x.month();
                }
                DOC.due("by " + wax, melted, wax == due ? 0 : 1);
            }
        });
    }

    private static void leastRefused() {
        DOC.says("25: NONE: no such set", () -> {
            for (int set : new int[] {0, 16, 17, 128, -1, LEAST, MOST}) {
                refuses("least(" + set + ", 1, NONE)", x -> x.least(set, 1, NONE));
            }
            WaxReign seven = Check.kingdom("t;t;t;t;t;t;t;r");
            DOC.due("an eighth of seven", seven.least(128, 1, NONE), NONE);
            refusesWithoutKingdom("least(1, 1, NONE)", x -> x.least(1, 1, NONE), NONE);
            refusesWithoutKingdom("least(0, 1, NONE)", x -> x.least(0, 1, NONE), NONE);
        });
        DOC.says("25: NONE: out of bounds", () -> {
            for (int n : new int[] {0, -1, 25, LEAST, MOST}) {
                refuses("least(1, " + n + ", NONE)", x -> x.least(1, n, NONE));
            }
        });
        DOC.says("25: NONE: not of these", () -> {
            refuses("least(1, 1, 1)", x -> x.least(1, 1, 1));
            refuses("least(2, 1, 0)", x -> x.least(2, 1, 0));
            refuses("an open one", x -> x.least(7, 1, 3));
        });
        DOC.says("25: NONE: no such THING", () -> {
            for (int thing : new int[] {-2, 4, 7, 32, 33, LEAST, MOST}) {
                refuses("least(15, 1, " + thing + ")", x -> x.least(15, 1, thing));
            }
        });
    }

    private static void pack() {
        DOC.says("26: WAX there is now just does, one less does not", () -> {
            String things = ";th8s0w1d5;r";
            DOC.due("six", Check.kingdom("sw6h10" + things).pack(24, 0), 1);
            DOC.due("five", Check.kingdom("sw5h10" + things).pack(24, 0), 0);
            DOC.due("six: depth", Check.kingdom("sw6h10" + things).pack(24, 1), 5);
            DOC.due("five: depth", Check.kingdom("sw5h10" + things).pack(24, 1), 0);
        });
        DOC.says("26: by no WAX what needs none is kept", () -> {
            WaxReign x = Check.kingdom("sw0h10;th40d5;th8s0d9;r");
            DOC.due("that", x.pack(24, 0), 1);
            DOC.due("depth", x.pack(24, 1), 5);
        });
        DOC.says("26: nothing is kept", () -> {
            WaxReign open = Check.kingdom("tw0d9;r");
            DOC.due("all open", open.pack(24, 0), 0);
            DOC.due("depth", open.pack(24, 1), 0);
            WaxReign hot = Check.kingdom("sw99h40;th0d9;r");
            DOC.due("not by nine", hot.pack(24, 0), 0);
            DOC.due("depth", hot.pack(24, 1), 0);
        });
        DOC.says("26: all seven are kept", () -> {
            WaxReign x = Check.kingdom("sw42h10;th8s0d9;th8s0d9;th8s0d9;th8s0d9;th8s0d9;th8s0d9;th8s0d9;r");
            DOC.due("that", x.pack(24, 0), 127);
            DOC.due("depth", x.pack(24, 1), 63);
            x.seal(0, 1);
            x.open(0);
            DOC.due("one is open", x.pack(24, 0), 126);
        });
        DOC.says("26: of several the least", () -> {
            WaxReign x = Check.kingdom("sw6h10;th8s0d3;th8s0d3;th8s0d3;r");
            DOC.due("one of three", x.pack(24, 0), 1);
            WaxReign none = Check.kingdom("sw9h10;th40d0;th40d4;th40d0;r");
            DOC.due("what is of no depth is not of the least", none.pack(24, 0), 2);
        });
        DOC.says("26: n of 1 .. 24", () -> {
            WaxReign x = Check.kingdomUnder("y:m=11?0;y:99", "sh1;td5;r");
            DOC.due("1", x.pack(1, 1), 5);
            DOC.due("11", x.pack(11, 1), 5);
            DOC.due("12", x.pack(12, 1), 0);
            DOC.due("24", x.pack(24, 1), 0);
        });
    }

    private static void packRefused() {
        DOC.says("26: NONE: no KINGDOM", () -> {
            refusesWithoutKingdom("pack(1, 0)", x -> x.pack(1, 0), NONE);
            refusesWithoutKingdom("pack(1, 1)", x -> x.pack(1, 1), NONE);
        });
        DOC.says("26: NONE: out of bounds", () -> {
            for (int n : new int[] {0, -1, 25, LEAST, MOST}) {
                refuses("pack(" + n + ", 0)", x -> x.pack(n, 0));
                refuses("pack(" + n + ", 1)", x -> x.pack(n, 1));
            }
        });
        DOC.says("26: NONE: no such what", () -> {
            for (int what : new int[] {-1, 2, LEAST, MOST}) {
                refuses("pack(1, " + what + ")", x -> x.pack(1, what));
            }
        });
    }

    private static void order() {
        DOC.says("27: the first the highest", () -> {
            WaxReign x = Check.kingdom("sh10;th12s0;th10s0;th8s0;tw0;th14s0;th7s0;th20s0;r");
            DOC.due("order", x.order(0), 52104);
            DOC.due("how many", x.order(1), 5);
        });
        DOC.says("27: in one MONTH by numbers; all seven", () -> {
            WaxReign x = Check.kingdom("sh20;t;t;t;t;t;t;t;r");
            DOC.due("order", x.order(0), 123456);
            DOC.due("how many", x.order(1), 7);
            WaxReign down = Check.kingdom("sh10;th14s0;th13s0;th12s0;th11s0;th10s0;th9s0;th7s0;r");
            DOC.due("the last first", down.order(0), 6534120);
            DOC.due("how many", down.order(1), 7);
        });
        DOC.says("27: those that MELT: 22 holds 22, 21 does not", () -> {
            DOC.due("21", Check.kingdom("sh10;th19s0;r").order(1), 1);
            DOC.due("22", Check.kingdom("sh10;th20s0;r").order(1), 0);
            DOC.due("both", Check.kingdom("sh10;th20s0;th19s0;r").order(0), 1);
        });
        DOC.says("27: NONE: none", () -> {
            WaxReign x = Check.kingdom("sh10;th20s0;tw0;r");
            DOC.due("order", x.order(0), NONE);
            DOC.due("how many", x.order(1), 0);
            WaxReign open = Check.kingdom("sh40;tw0;r");
            DOC.due("all open", open.order(0), NONE);
            DOC.due("how many", open.order(1), 0);
        });
        DOC.says("27: THING 0 alone is a row of 0", () -> {
            WaxReign x = Check.kingdom("sh40;t;r");
            DOC.due("order", x.order(0), 0);
            DOC.due("how many", x.order(1), 1);
        });
        DOC.says("27: within a whole year", () -> {
            WaxReign x = Check.kingdomUnder("y:m=d?0;y:99", "sh1;td9;td0;r");
            DOC.due("order", x.order(0), 10);
            WaxReign last = Check.kingdomUnder("y:m=d+2?0;y:99", "sh1;td9;r");
            DOC.due("in the twelfth", last.order(0), 0);
        });
        DOC.says("27: NONE: no KINGDOM", () -> {
            refusesWithoutKingdom("order(0)", x -> x.order(0), NONE);
            refusesWithoutKingdom("order(1)", x -> x.order(1), NONE);
        });
        DOC.says("27: NONE: no such what", () -> {
            for (int what : new int[] {-1, 2, LEAST, MOST}) {
                refuses("order(" + what + ")", x -> x.order(what));
            }
        });
    }

    private static void dealt() {
        DOC.says("28: one THING alone", () -> {
            DOC.due("row", Check.kingdom("t;r").dealt(1, 0), 0);
            DOC.due("it holds", Check.kingdom("sh0;td9;r").dealt(1, 1), 0);
            DOC.due("it melts", Check.kingdom("sh40;td9;r").dealt(1, 1), 9);
        });
        DOC.says("28: who has the least SUN stands first", () -> {
            WaxReign x = Check.kingdom("sh10;th40s0d5;th8s9d4;r");
            DOC.due("row", x.dealt(1, 0), 10);
            DOC.due("how much", x.dealt(1, 1), 0);
        });
        DOC.says("28: the SUNS are dealt out the least first, however they lay", () -> {
            DOC.due("9, 0", Check.kingdom("sh10;th8s9d5;th40s0d4;r").dealt(1, 0), 1);
            DOC.due("9, 0: how much", Check.kingdom("sh10;th8s9d5;th40s0d4;r").dealt(1, 1), 0);
            // 0 holds SUNS of 5 at most, 1 of 0, 2 of 9.
            DOC.due("9, 5, 0", Check.kingdom("sh10;th13s9;th8s5;th17s0;r").dealt(1, 0), 102);
            DOC.due("5, 9, 0", Check.kingdom("sh10;th13s5;th8s9;th17s0;r").dealt(1, 0), 102);
            DOC.due("9, 0, 5", Check.kingdom("sh10;th13s9;th8s0;th17s5;r").dealt(1, 0), 102);
        });
        DOC.says("28: of several the least row", () -> {
            WaxReign melts = Check.kingdom("sh40;td9s9;td9s0;td9s5;r");
            DOC.due("all melt", melts.dealt(1, 0), 12);
            DOC.due("how much", melts.dealt(1, 1), 27);
            WaxReign holds = Check.kingdom("sh0;td9s9;td9s0;td9s5;r");
            DOC.due("none melts", holds.dealt(1, 0), 12);
            WaxReign alike = Check.kingdom("sh10;th40s3;th8s0;th40s3;th40s0;r");
            DOC.due("1 has the second of two suns of 0", alike.dealt(1, 0), 123);
        });
        DOC.says("28: DEPTH of OPEN ones counts nothing, though they have a SUN", () -> {
            WaxReign x = Check.kingdom("sh40;tw0d9s0;td5s9;r");
            DOC.due("how much", x.dealt(1, 1), 5);
            WaxReign shade = Check.kingdom("sh10;tw0d9s0;th8s9d5;r");
            DOC.due("it gives its sun away", shade.dealt(1, 0), 10);
            DOC.due("how much", shade.dealt(1, 1), 0);
        });
        DOC.says("28: all seven", () -> {
            // Of SUNS of 0, 1, 2, 3, 4, 5, 9 the first holds all, the others in turn 8, 7, 6, 5, 4, 3 at most.
            WaxReign x = Check.kingdom("sh10;th17s0d1;th16s1d1;th15s2d1;th14s3d1;th13s4d1;th12s5d1;th11s9d1;r");
            DOC.due("row", x.dealt(1, 0), 1236540);
            DOC.due("how much", x.dealt(1, 1), 0);
            WaxReign all = Check.kingdom("sh40;td9;td9;td9;td9;td9;td9;td9;r");
            DOC.due("row", all.dealt(24, 0), 123456);
            DOC.due("how much", all.dealt(24, 1), 63);
        });
        DOC.says("28: n of 1 .. 24", () -> {
            WaxReign x = Check.kingdomUnder("y:m=11?0;y:99", "sh1;td5;r");
            DOC.due("1", x.dealt(1, 1), 0);
            DOC.due("11", x.dealt(11, 1), 0);
            DOC.due("12", x.dealt(12, 1), 5);
            DOC.due("24", x.dealt(24, 1), 5);
        });
    }

    private static void dealtRefused() {
        DOC.says("28: NONE: no KINGDOM", () -> {
            refusesWithoutKingdom("dealt(1, 0)", x -> x.dealt(1, 0), NONE);
            refusesWithoutKingdom("dealt(1, 1)", x -> x.dealt(1, 1), NONE);
        });
        DOC.says("28: NONE: out of bounds", () -> {
            for (int n : new int[] {0, -1, 25, LEAST, MOST}) {
                refuses("dealt(" + n + ", 0)", x -> x.dealt(n, 0));
                refuses("dealt(" + n + ", 1)", x -> x.dealt(n, 1));
            }
        });
        DOC.says("28: NONE: no such what", () -> {
            for (int what : new int[] {-1, 2, LEAST, MOST}) {
                refuses("dealt(1, " + what + ")", x -> x.dealt(1, what));
            }
        });
    }

    private static WaxReign withNotes(int many) {
        WaxReign x = realm();
        while (x.count(9) < many) {
            x.noted(1, 0, true);
        }
        return x;
    }

    private static void noted() {
        DOC.says("29: how many there are; 10 at most", () -> {
            WaxReign x = Check.kingdom("t;t;r;r");
            for (int i = 1; i <= 10; i++) {
                DOC.due("noted", x.noted(i % 2, i / 2 % 2, i % 3 == 0), i);
                DOC.due("count", x.count(9), i);
            }
        });
        DOC.says("29: NONE: there are ten", () -> {
            DOC.due("the tenth", withNotes(9).noted(0, 0, true), 10);
            DOC.refuses("an eleventh", () -> withNotes(10), x -> x.noted(0, 0, false), NONE);
        });
        DOC.says("29: NONE: no such RING", () -> {
            for (int ring : new int[] {-1, 3, 5, LEAST, MOST}) {
                refuses("noted(" + ring + ", 0)", x -> x.noted(ring, 0, true));
            }
            refusesWithoutKingdom("noted(0, 0)", x -> x.noted(0, 0, true), NONE);
        });
        DOC.says("29: NONE: no such THING", () -> {
            for (int thing : new int[] {-1, 4, 7, LEAST, MOST}) {
                refuses("noted(0, " + thing + ")", x -> x.noted(0, thing, false));
            }
        });
        DOC.says("29: the last RING and the last THING", () -> {
            WaxReign x = Check.kingdom("t;t;t;t;t;t;t;r;r;r;r;r");
            DOC.due("noted", x.noted(4, 6, true), 1);
            DOC.due("who", x.who(0), 64);
            DOC.due("alone", x.who(NONE), 1);
        });
        DOC.says("29: all ten are weighed", () -> {
            WaxReign x = Check.kingdom("t;t;t;r;r;r;r;r");
            int[][] not = {{1, 0}, {2, 0}, {3, 0}, {4, 0}, {1, 1}, {2, 1}, {3, 1}, {4, 1}, {1, 2}, {2, 2}};
            for (int[] of : not) {
                x.noted(of[0], of[1], false);
            }
            whoIs(x, 23, 24, 99);
        });
    }

    private static void whoIs(WaxReign x, int... due) {
        DOC.due("how many", x.who(NONE), due.length);
        for (int i = 0; i < due.length; i++) {
            DOC.due("who(" + i + ")", x.who(i), due[i]);
        }
        DOC.due("no more", x.who(due.length), NONE);
    }

    private static void who() {
        DOC.says("30: nothing NOTED: all that KNOW not, and 99, rising", () -> {
            whoIs(Check.kingdom("to1;to2;r;r;r"), 0, 2, 10, 11, 99);
            whoIs(Check.kingdom("t;r"), 99);
        });
        DOC.says("30: all there can be: 28 and 99", () -> {
            WaxReign x = Check.kingdom("t;t;t;t;t;t;t;r;r;r;r;r");
            DOC.due("how many", x.who(NONE), 29);
            DOC.due("the first", x.who(0), 1);
            DOC.due("the last but one", x.who(27), 64);
            DOC.due("the last", x.who(28), 99);
            DOC.due("no more", x.who(29), NONE);
        });
        DOC.says("30: did this one KNOW it, too, all NOTED would be so", () -> {
            WaxReign x = Check.kingdom("to1;to2;r;r;r");
            x.noted(0, 0, true);
            whoIs(x, 0);
            x.noted(1, 0, true);
            whoIs(x, 0);
            x.noted(2, 0, false);
            whoIs(x, 0);
        });
        DOC.says("30: 99: it is so as now", () -> {
            WaxReign x = Check.kingdom("to1;rk9;r");
            x.noted(0, 0, true);
            whoIs(x, 0);
            x.pry(0, 0);
            whoIs(x, 99);
        });
        DOC.says("30: nothing fits: 0", () -> {
            WaxReign x = Check.kingdom("to1;r;r");
            x.noted(1, 0, false);
            whoIs(x);
            WaxReign y = Check.kingdom("to1;r;r;r");
            y.noted(0, 0, true);
            y.noted(2, 0, true);
            whoIs(y);
        });
        DOC.says("30: NONE: no such one", () -> {
            for (int i : new int[] {-2, 36, LEAST, MOST}) {
                refuses("who(" + i + ")", x -> x.who(i));
            }
        });
        DOC.says("30: NONE: no KINGDOM", () -> {
            refusesWithoutKingdom("who(NONE)", x -> x.who(NONE), NONE);
            refusesWithoutKingdom("who(0)", x -> x.who(0), NONE);
        });
    }

    private static void ask() {
        DOC.says("31: least apart in number", () -> {
            WaxReign x = Check.kingdom("to0;r;r");
            DOC.due("one each", x.ask(), 1);
        });
        DOC.says("31: of several the least", () -> {
            WaxReign x = Check.kingdom("to0;to2;r;r;r");
            DOC.due("1, 2, 10, 11", x.ask(), 1);
            x.noted(1, 0, false);
            DOC.due("2, 10, 11", x.ask(), 2);
            WaxReign y = Check.kingdom("t;r");
            DOC.due("one that knows", y.ask(), 0);
        });
        DOC.says("31: one is left: all are one apart, so that it is the least of all", () -> {
            WaxReign x = Check.kingdom("t;r;r;r");
            DOC.due("1, 2, 99", x.ask(), 1);
            x.noted(1, 0, false);
            DOC.due("2, 99", x.ask(), 2);
            x.noted(2, 0, false);
            DOC.due("99", x.ask(), 0);
            WaxReign y = Check.kingdom("to1;r;r;r");
            y.noted(2, 0, true);
            DOC.due("2", y.ask(), 0);
        });
        DOC.says("31: 10 times a THING and a RING, up to the last ones", () -> {
            WaxReign x = Check.kingdom("t;t;to1;r;r;r");
            x.noted(1, 0, false);
            x.noted(2, 0, false);
            DOC.due("11, 12, 20, 22, 99", x.ask(), 11);
            x.noted(1, 1, false);
            x.noted(2, 1, false);
            DOC.due("20, 22, 99", x.ask(), 20);
            x.noted(0, 2, false);
            DOC.due("22, 99", x.ask(), 22);
            WaxReign last = Check.kingdom("sh40;t;t;t;t;t;t;to3w0;r;r;r;r;r");
            last.month();
            DOC.due("60, 61, 62, 64, 99", last.ask(), 60);
            for (int ring = 0; ring < 3; ring++) {
                last.noted(ring, 6, false);
            }
            DOC.due("64, 99", last.ask(), 64);
        });
        DOC.says("31: NONE: nothing fits", () -> {
            DOC.refuses("ask", () -> {
                WaxReign x = Check.kingdom("to1;r;r");
                x.noted(1, 0, false);
                return x;
            }, WaxReign::ask, NONE);
        });
        DOC.says("31: NONE: no KINGDOM", () -> refusesWithoutKingdom("ask", WaxReign::ask, NONE));
    }

    /** What both have by 00, 01, 10, 11. */
    private static void games(String kingdom, int one, int other, int... due) {
        WaxReign x = Check.kingdom(kingdom);
        for (int i = 0; i < 4; i++) {
            String what = "game of " + one + " and " + other + " in " + kingdom + " by " + i;
            DOC.due(what, x.game(one, other, 0, i / 2, i % 2, 0), due[2 * i]);
            DOC.due(what, x.game(one, other, 0, i / 2, i % 2, 1), due[2 * i + 1]);
        }
    }

    private static void game() {
        DOC.says("32: nothing, if it does not; else DEPTH", () -> games("to2w1d8;rk9;rk9;r", 0, 1, 0, 0, 0, 8, 8, 0, 4, 4));
        DOC.says("32: by 2, cut, if both do", () -> {
            games("to2w1d9;rk9;rk9;r", 0, 1, 0, 0, 0, 9, 9, 0, 4, 4);
            games("to2w1d1;rk9;rk9;r", 0, 1, 0, 0, 0, 1, 1, 0, 0, 0);
            games("to2w1d0;rk9;rk9;r", 0, 1, 0, 0, 0, 0, 0, 0, 0, 0);
        });
        DOC.says("32: 3 less, if it would have a SCAR", () -> {
            games("to2w2d7;rk4;rk3;r", 0, 1, 0, 0, 0, 4, 7, 0, 3, 0);
            games("to2w2d0;rk4;rk3;r", 0, 1, 0, 0, 0, -3, 0, 0, 0, -3);
        });
        DOC.says("32: the second has none, if the first left it OPEN", () -> {
            games("to2w2d7;rk3;rk3;r", 0, 1, 0, 0, 0, 4, 4, 0, 0, 3);
            games("to2w2d7;rk3;rk4;r", 0, 1, 0, 0, 0, 7, 4, 0, 0, 3);
        });
        DOC.says("32: both as skilled as now", () -> {
            WaxReign x = Check.kingdom("to2w4d6;to2w9;rk8;rk8;r");
            DOC.due("skilled", x.game(0, 1, 0, 1, 0, 0), 6);
            x.pry(1, 0);
            DOC.due("no more", x.game(0, 1, 0, 1, 0, 0), 3);
        });
    }

    /** The first two of five RINGS and THING 0 can play; 2 is THING 0's own; THING 1 is OPEN. */
    private static WaxReign table() {
        WaxReign x = Check.kingdom("to2w2d7;tw0;rk4;rk3;r;rk9;rk0");
        x.heat(3);
        x.image();
        return x;
    }

    private static void hides(int... call) {
        DOC.refuses("game " + java.util.Arrays.toString(call), BoundsForecastTest::table,
            x -> x.game(call[0], call[1], call[2], call[3], call[4], call[5]), HIDDEN);
    }

    private static void gameRefused() {
        DOC.says("32: HIDDEN: no such RING", () -> {
            for (int ring : new int[] {-1, 5, LEAST, MOST}) {
                hides(ring, 1, 0, 0, 0, 0);
                hides(0, ring, 0, 0, 0, 0);
            }
        });
        DOC.says("32: HIDDEN: no such THING", () -> {
            for (int thing : new int[] {-1, 2, LEAST, MOST}) {
                hides(0, 1, thing, 0, 0, 0);
            }
            refusesWithoutKingdom("game", x -> x.game(0, 1, 0, 0, 0, 0), HIDDEN);
        });
        DOC.says("32: HIDDEN: alike", () -> hides(0, 0, 0, 0, 0, 0));
        DOC.says("32: HIDDEN: it is OPEN", () -> hides(3, 4, 1, 0, 0, 0));
        DOC.says("32: HIDDEN: one's own", () -> {
            hides(2, 0, 0, 0, 0, 0);
            hides(0, 2, 0, 0, 0, 0);
        });
        DOC.says("32: HIDDEN: out of bounds", () -> {
            for (int wrong : new int[] {-1, 2, LEAST, MOST}) {
                hides(0, 1, 0, wrong, 0, 0);
                hides(0, 1, 0, 0, wrong, 0);
            }
        });
        DOC.says("32: HIDDEN: no such what", () -> {
            for (int wrong : new int[] {-1, 2, LEAST, MOST}) {
                hides(0, 1, 0, 0, 0, wrong);
            }
        });
        DOC.says("32: the last of five can play", () -> {
            DOC.due("game", table().game(4, 3, 0, 0, 1, 1), 7);
            DOC.due("game", table().game(3, 4, 0, 1, 0, 0), 7);
        });
    }

    private static void restsAre(String kingdom, int... due) {
        WaxReign x = Check.kingdom(kingdom);
        DOC.due("how many rests of " + kingdom, x.rests(0, 1, 0, NONE), due.length);
        for (int i = 0; i < due.length; i++) {
            DOC.due("rest " + i + " of " + kingdom, x.rests(0, 1, 0, i), due[i]);
        }
        DOC.due("no more", x.rests(0, 1, 0, due.length), NONE);
    }

    private static void rests() {
        DOC.says("33: neither has more by the other: as much is no more", () -> {
            restsAre("to2w2d0;rk9;rk9;r", 0, 1, 10, 11);
            restsAre("to2w2d1;rk9;rk9;r", 1, 10, 11);
            restsAre("to2w2d2;rk9;rk9;r", 11);
        });
        DOC.says("33: rests of those who would have a SCAR", () -> {
            restsAre("to2w2d2;rk0;rk0;r", 0);
            restsAre("to2w2d3;rk0;rk0;r", 0, 1);
            restsAre("to2w2d5;rk0;rk0;r", 1);
            restsAre("to2w2d6;rk0;rk0;r", 1, 11);
        });
        DOC.says("33: NONE: no such one", () -> {
            for (int i : new int[] {-2, 1, 4, LEAST, MOST}) {
                DOC.refuses("rests(0, 3, 0, " + i + ")", BoundsForecastTest::table, x -> x.rests(0, 3, 0, i), NONE);
            }
        });
        DOC.says("33: NONE: as for GAME", () -> {
            int[][] none = {{-1, 1, 0}, {5, 1, 0}, {0, -1, 0}, {0, 5, 0}, {0, 1, -1}, {0, 1, 2}, {0, 0, 0}, {3, 4, 1},
                {2, 0, 0}, {0, 2, 0}};
            for (int[] of : none) {
                for (int i = NONE; i <= 0; i++) {
                    int asked = i;
                    DOC.refuses("rests", BoundsForecastTest::table, x -> x.rests(of[0], of[1], of[2], asked), NONE);
                }
            }
            refusesWithoutKingdom("rests", x -> x.rests(0, 1, 0, NONE), NONE);
        });
    }

    private static int oddsBy(int holds, int n, int chance) {
        return Check.kingdomUnder("y:" + holds, "sh10;t;r").odds(0, n, chance);
    }

    private static void odds() {
        DOC.says("34: n of 0: all parts", () -> {
            DOC.due("never", oddsBy(0, 0, 0), ALL_PARTS);
            DOC.due("ever", oddsBy(0, 0, 100), ALL_PARTS);
        });
        DOC.says("34: n of 12", () -> {
            DOC.due("by 22", oddsBy(22, 12, 0), ALL_PARTS);
            DOC.due("by 27", oddsBy(27, 12, 100), ALL_PARTS);
            DOC.due("by 26, one month is too hot", oddsBy(26, 12, 40), 600000000);
            DOC.due("by 24, three months are", oddsBy(24, 12, 50), 125000000);
            WaxReign last = Check.kingdomUnder("y:m=11?0;y:99", "sh1;t;r");
            DOC.due("eleven", last.odds(0, 11, 0), ALL_PARTS);
            DOC.due("twelve", last.odds(0, 12, 0), 0);
        });
        DOC.says("34: WARMTH is 5 more by chance", () -> {
            DOC.due("15 holds 15", oddsBy(15, 1, 100), ALL_PARTS);
            DOC.due("15 does not hold 14", oddsBy(14, 1, 100), 0);
            DOC.due("14 by 30", oddsBy(14, 1, 30), 700000000);
            DOC.due("10 holds 10", oddsBy(10, 1, 30), 700000000);
            DOC.due("10 does not hold 9", oddsBy(9, 1, 30), 0);
        });
        DOC.says("34: a chance of 0 .. 100", () -> {
            DOC.due("0", oddsBy(10, 1, 0), ALL_PARTS);
            DOC.due("1", oddsBy(10, 1, 1), 990000000);
            DOC.due("99", oddsBy(10, 1, 99), 10000000);
            DOC.due("100", oddsBy(10, 1, 100), 0);
        });
        DOC.says("34: of the part that is left chance 100ths, cut, are hotter", () -> {
            WaxReign x = Check.kingdomUnder("y:10+2*m-4*m/7*[m-6]", "sh10;t;r");
            long left = ALL_PARTS;
            for (int n = 1; n <= 7; n++) {
                left -= left * 33 / 100;
                DOC.due("in " + n, x.odds(0, n, 33), left);
            }
            DOC.due("cut, not rounded", x.odds(0, 5, 99), 1);
            DOC.due("one part of 99 100ths is left", x.odds(0, 6, 99), 1);
        });
        DOC.says("34: 0: it is OPEN", () -> {
            DOC.due("n of 0", Check.kingdom("tw0h40;r").odds(0, 0, 0), 0);
            DOC.due("n of 12", Check.kingdom("tw0h40;r").odds(0, 12, 100), 0);
        });
    }

    private static void oddsRefused() {
        DOC.says("34: NONE: no such THING", () -> {
            for (int thing : new int[] {-1, 4, 7, LEAST, MOST}) {
                refuses("odds(" + thing + ", 1, 1)", x -> x.odds(thing, 1, 1));
            }
            refusesWithoutKingdom("odds(0, 0, 0)", x -> x.odds(0, 0, 0), NONE);
        });
        DOC.says("34: NONE: n out of bounds", () -> {
            for (int n : new int[] {-1, 13, LEAST, MOST}) {
                refuses("odds(0, " + n + ", 1)", x -> x.odds(0, n, 1));
                refuses("odds of an open one", x -> x.odds(3, n, 1));
            }
        });
        DOC.says("34: NONE: chance out of bounds", () -> {
            for (int chance : new int[] {-1, 101, LEAST, MOST}) {
                refuses("odds(0, 1, " + chance + ")", x -> x.odds(0, 1, chance));
                refuses("odds of an open one", x -> x.odds(3, 1, chance));
            }
        });
    }

    private static void foremostThings() {
        DOC.says("35: SOFTEST: that is not OPEN and HOLDS least, of several the lowest", () -> {
            DOC.due("the open one is none", Check.kingdom("tw0h0;th9;th8;th8;r").all(0), 2);
            DOC.due("the last of seven", Check.kingdom("t;t;t;t;t;t;th14;r").all(0), 6);
            DOC.due("all alike", Check.kingdom("t;t;t;r").all(0), 0);
        });
        DOC.says("35: DEEPEST: of these, of several the lowest", () -> {
            DOC.due("the open one is none", Check.kingdom("tw0d9;td7;td8;td8;r").all(1), 2);
            DOC.due("all of no depth", Check.kingdom("td0;td0;r").all(1), 0);
            DOC.due("the last of seven", Check.kingdom("t;t;t;t;t;t;td4;r").all(1), 6);
        });
        DOC.says("35: HOTTEST: of these, of several the lowest", () -> {
            DOC.due("the open one is none", Check.kingdom("tw0s9;ts7;ts8;ts8;r").all(2), 2);
            DOC.due("all without sun", Check.kingdom("ts0;ts0;r").all(2), 0);
            DOC.due("the last of seven", Check.kingdom("t;t;t;t;t;t;ts3;r").all(2), 6);
        });
        DOC.says("35: NONE: all are OPEN, these three", () -> {
            for (int what = 0; what <= 2; what++) {
                DOC.due("all(" + what + ")", Check.kingdom("tw0;tw0;r").all(what), NONE);
            }
        });
    }

    private static void foremostRings() {
        DOC.says("35: SKILLED: of several the lowest", () -> {
            DOC.due("the second of two", Check.kingdom("t;rk3;rk9;rk9;r").all(3), 1);
            DOC.due("all alike", Check.kingdom("t;rk0;rk0").all(3), 0);
            DOC.due("the last of five", Check.kingdom("t;r;r;r;r;rk4").all(3), 4);
        });
        DOC.says("35: SCARRED: of several the lowest", () -> {
            WaxReign x = Check.kingdom("tw9;tw9;tw9;rk0;rk0;rk0");
            DOC.due("none has one", x.all(4), 0);
            x.pry(0, 2);
            DOC.due("the last", x.all(4), 2);
            x.pry(1, 1);
            DOC.due("the lowest of two", x.all(4), 1);
            x.pry(2, 2);
            DOC.due("two scars", x.all(4), 2);
        });
        DOC.says("35: SKILLED and SCARRED of five RINGS without SKILL", () -> {
            WaxReign x = Check.kingdom("tw9;to1w9;rk0;rk0;rk0;rk0;rk0");
            x.pry(1, 0);
            DOC.due("skilled", x.all(3), 0);
            DOC.due("scarred", x.all(4), 0);
            x.seal(1, 1);
            x.pry(1, 4);
            x.pry(0, 4);
            DOC.due("skilled", x.all(3), 0);
            DOC.due("scarred", x.all(4), 4);
        });
    }

    private static void allElse() {
        DOC.says("35: SEALED: none and all seven", () -> {
            DOC.due("none", Check.kingdom("tw0;tw0;r").all(5), 0);
            DOC.due("all", Check.kingdom("t;t;t;t;t;t;t;r").all(5), 127);
            DOC.due("the last", Check.kingdom("tw0;tw0;tw0;tw0;tw0;tw0;t;r").all(5), 64);
        });
        DOC.says("35: SECRETS: that just one RING KNOWS, OPEN or not", () -> {
            WaxReign x = Check.kingdom("sh0;tw1;tw0;tw1;t;t;t;t;rk9;rk9;rk9");
            DOC.due("all", x.all(6), 127);
            x.pry(0, 1);
            DOC.due("two know it", x.all(6), 126);
            x.pry(0, 2);
            DOC.due("three know it", x.all(6), 126);
            x.heat(40);
            x.month();
            DOC.due("the open one is left", x.all(6), 2);
        });
        DOC.says("35: SECRETS of seven, by RINGS of whatever SKILL", () -> {
            for (int skill : new int[] {0, 1, 2, 4, 8}) {
                DOC.due("by " + skill, Check.kingdom("t;t;t;t;t;t;t;rk" + skill + ";r;r;r;r").all(6), 127);
            }
        });
        DOC.says("35: WAXED: none and 63", () -> {
            DOC.due("none", Check.kingdom("tw0;tw0;r").all(7), 0);
            DOC.due("all", Check.kingdom("tw9;tw9;tw9;tw9;tw9;tw9;tw9;r").all(7), 63);
        });
        DOC.says("35: FORGED: how often one was", () -> {
            WaxReign x = Check.kingdom("sw99;tw1;rk9;rk9");
            for (int i = 0; i < 25; i++) {
                DOC.due("forged", x.all(8), i);
                x.pry(0, 1);
            }
        });
        DOC.says("35: COOLEST: 0 .. 11", () -> {
            WaxReign x = Check.kingdom("tw0;r");
            int[] due = {0, 11, 10, 9, 8, 7, 6, 5, 4, 3, 2, 1, 0, 11};
            for (int time = 0; time < due.length; time++) {
                DOC.due("at " + time, x.all(9), due[time]);
                x.month();
            }
        });
        DOC.says("35: NONE: no KINGDOM", () -> {
            for (int what = 0; what <= 9; what++) {
                int asked = what;
                refusesWithoutKingdom("all(" + what + ")", x -> x.all(asked), NONE);
            }
        });
        DOC.says("35: NONE: no such what", () -> {
            for (int what : new int[] {-1, 10, LEAST, MOST}) {
                refuses("all(" + what + ")", x -> x.all(what));
            }
        });
    }

    private static void known() {
        DOC.says("36: KNOWN: none and all seven", () -> {
            WaxReign x = Check.kingdom("sh40;t;t;t;t;t;t;t;r;r;r;r;r");
            DOC.due("its own", x.known(0), 127);
            DOC.due("none", x.known(4), 0);
            x.month();
            DOC.due("all", x.known(4), 127);
        });
        DOC.says("36: NONE: no such RING", () -> {
            for (int ring : new int[] {-1, 3, 5, LEAST, MOST}) {
                refuses("known(" + ring + ")", x -> x.known(ring));
            }
            refusesWithoutKingdom("known(0)", x -> x.known(0), NONE);
        });
    }

    private static void spare() {
        DOC.says("37: by how much it HOLDS more (below 0: less)", () -> {
            DOC.due("more", Check.kingdom("sh10;th9s0w1;r").spare(0), 1);
            DOC.due("as much", Check.kingdom("sh10;th8s0w1;r").spare(0), 0);
            DOC.due("less", Check.kingdom("sh10;th7s0w1;r").spare(0), -1);
            DOC.due("the least", Check.kingdomUnder("y:0-9", "sh40;t;r").spare(0), -40);
            DOC.due("the most", Check.kingdomUnder("y:999", "sh0;t;r").spare(0), 99);
        });
        DOC.says("37: HIDDEN: no such THING", () -> {
            for (int thing : new int[] {-1, 4, 7, LEAST, MOST}) {
                DOC.refuses("spare(" + thing + ")", BoundsForecastTest::realm, x -> x.spare(thing), HIDDEN);
            }
            refusesWithoutKingdom("spare(0)", x -> x.spare(0), HIDDEN);
        });
        DOC.says("37: HIDDEN: it is OPEN", () -> DOC.refuses("spare(3)", BoundsForecastTest::realm, x -> x.spare(3), HIDDEN));
    }

    private static void openers() {
        DOC.says("38: RINGS that could PRY it without a SCAR: none and four", () -> {
            DOC.due("none", Check.kingdom("tw5;rk9;rk9;rk9;rk9;rk9").openers(0), 0);
            DOC.due("four", Check.kingdom("tw4;rk9;rk9;rk9;rk9;rk9").openers(0), 30);
            DOC.due("four of another", Check.kingdom("to4w4;rk9;rk9;rk9;rk9;rk9").openers(0), 15);
            DOC.due("its own alone is none", Check.kingdom("tw1;rk9").openers(0), 0);
        });
        DOC.says("38: SKILL twice the WAX or more", () -> {
            DOC.due("5, 6, 7", Check.kingdom("tw3;r;rk5;rk6;rk7").openers(0), 12);
        });
        DOC.says("38: SCARS are no SKILL", () -> {
            WaxReign x = Check.kingdom("to1;rk0;r;r;r;rk2");
            for (int i = 0; i < 9; i++) {
                x.pry(0, 0);
                x.seal(0, 1);
            }
            DOC.due("scars", x.ring(0, 1), 9);
            DOC.due("3, 3 and 2", x.openers(0), 28);
        });
        DOC.says("38: NONE: no such THING", () -> {
            for (int thing : new int[] {-1, 4, 7, LEAST, MOST}) {
                refuses("openers(" + thing + ")", x -> x.openers(thing));
            }
            refusesWithoutKingdom("openers(0)", x -> x.openers(0), NONE);
        });
        DOC.says("38: NONE: it is OPEN", () -> refuses("openers(3)", x -> x.openers(3)));
    }

    private static void tells() {
        DOC.says("39: its own tell nothing", () -> DOC.due("tells", Check.kingdom("td9;td9;r").tells(0), 0));
        DOC.says("39: how DEEP all is together that it KNOWS of others", () -> {
            WaxReign x = Check.kingdom("sh40;td9;td9;td9;td9;td9;td9;to1d9;r;r");
            DOC.due("nothing yet", x.tells(1), 0);
            x.month();
            DOC.due("six of others", x.tells(1), 54);
            DOC.due("one of others", x.tells(0), 9);
        });
        DOC.says("39: NONE: no such RING", () -> {
            for (int ring : new int[] {-1, 3, 5, LEAST, MOST}) {
                refuses("tells(" + ring + ")", x -> x.tells(ring));
            }
            refusesWithoutKingdom("tells(0)", x -> x.tells(0), NONE);
        });
    }

    private static void harden() {
        DOC.says("40: 0 .. 40", () -> {
            DOC.due("0", Check.kingdom("sh10;th8s0w1;r").harden(0, 1), 0);
            DOC.due("1", Check.kingdom("sh11;th8s0w1;r").harden(0, 1), 1);
            DOC.due("40", Check.kingdomUnder("y:h-5", "sh35;th0;r").harden(0, 1), 40);
        });
        DOC.says("40: NONE: not by 40", () -> {
            DOC.due("41", Check.kingdomUnder("y:h-5", "sh36;th0;r").harden(0, 1), NONE);
            DOC.due("never", Check.kingdomUnder("y:0", "sh1;th0;r").harden(0, 1), NONE);
        });
        DOC.says("40: at least: the least by which it does not MELT", () -> {
            DOC.due("7 alone", Check.kingdomUnder("y:h=7?99;y:h=9?99;y:0", "sh1;th5;r").harden(0, 24), 2);
            DOC.due("beyond 40 by 40", Check.kingdomUnder("y:h=80?99;y:0", "sh1;th40;r").harden(0, 24), 40);
        });
        DOC.says("40: n of 1 .. 24", () -> {
            WaxReign x = Check.kingdom("sh10;th8s0w1;r");
            DOC.due("2", x.harden(0, 2), 2);
            DOC.due("7", x.harden(0, 7), 12);
            DOC.due("24", x.harden(0, 24), 12);
            WaxReign late = Check.kingdomUnder("y:m=11&h=8?0;y:99", "sh1;th8;r");
            DOC.due("11", late.harden(0, 11), 0);
            DOC.due("12", late.harden(0, 12), 1);
        });
        DOC.says("40: NONE: no such THING", () -> {
            for (int thing : new int[] {-1, 4, 7, LEAST, MOST}) {
                refuses("harden(" + thing + ", 1)", x -> x.harden(thing, 1));
            }
            refusesWithoutKingdom("harden(0, 1)", x -> x.harden(0, 1), NONE);
        });
        DOC.says("40: NONE: it is OPEN", () -> refuses("harden(3, 1)", x -> x.harden(3, 1)));
        DOC.says("40: NONE: out of bounds", () -> {
            for (int n : new int[] {0, -1, 25, LEAST, MOST}) {
                refuses("harden(0, " + n + ")", x -> x.harden(0, n));
            }
        });
    }

    /** The i-th of seven has SUN i + 1 and HOLDS 11 and twice i; WARMTH is 10, 12, 14, 16, 18, 20, 22, 20, .. */
    private static WaxReign seven() {
        return Check.kingdomUnder("y:9+2*s", "sh10;ts1d1;ts2d2;ts3d3;ts4d4;ts5d5;ts6d6;ts7d7;r");
    }

    private static void eachOfSeven() {
        DOC.says("24: LASTS of each of seven", () -> {
            for (int thing = 0; thing < 7; thing++) {
                DOC.due("lasts(" + thing + ")", seven().lasts(thing), thing < 6 ? thing + 2 : NONE);
            }
        });
        DOC.says("27: ORDER of six of seven", () -> {
            DOC.due("order", seven().order(0), 12345);
            DOC.due("how many", seven().order(1), 6);
        });
        DOC.says("28: DEALT to seven", () -> {
            DOC.due("in one", seven().dealt(1, 0), 123456);
            DOC.due("one melts in two", seven().dealt(2, 1), 1);
            DOC.due("the first of them", seven().dealt(2, 0), 123456);
            DOC.due("six melt in seven", seven().dealt(7, 1), 21);
        });
        DOC.says("34: ODDS of each of seven", () -> {
            for (int thing = 0; thing < 6; thing++) {
                DOC.due("it holds", seven().odds(thing, thing + 1, 0), ALL_PARTS);
                DOC.due("it melts", seven().odds(thing, thing + 2, 0), 0);
            }
            DOC.due("the last", seven().odds(6, 12, 0), ALL_PARTS);
        });
        DOC.says("35: SOFTEST, DEEPEST and HOTTEST of seven", () -> {
            WaxReign x = seven();
            DOC.due("softest", x.all(0), 0);
            DOC.due("deepest", x.all(1), 6);
            DOC.due("hottest", x.all(2), 6);
            x.open(0);
            x.open(6);
            DOC.due("softest", x.all(0), 1);
            DOC.due("deepest", x.all(1), 5);
            DOC.due("hottest", x.all(2), 5);
        });
        DOC.says("37: SPARE of each of seven", () -> {
            for (int thing = 0; thing < 7; thing++) {
                DOC.due("spare(" + thing + ")", seven().spare(thing), 1 + 2 * thing);
            }
        });
    }

    private static void waxOfEachOfSeven() {
        DOC.says("25: LEAST of each of seven", () -> {
            WaxReign x = Check.kingdom("sh18;th0s0w1;th0s0w2;th0s0w3;th0s0w4;th0s0w5;th0s0w6;th0s0w7;r");
            DOC.due("all", x.least(127, 1, NONE), 35);
            for (int thing = 0; thing < 7; thing++) {
                DOC.due("of all", x.least(127, 1, thing), 8 - thing);
                DOC.due("alone", x.least(1 << thing, 1, NONE), 8 - thing);
            }
            DOC.due("in two not by nine", x.least(64, 2, 6), NONE);
        });
        DOC.says("34: ODDS by SUN and WAX of each of seven", () -> {
            WaxReign x = Check.kingdom("sh10;th9s1;th10s2;th11s3;th8s2w2;th7s3w3;th6s4w4;th5s5w5;r");
            for (int thing = 0; thing < 7; thing++) {
                DOC.due("odds of " + thing, x.odds(thing, 1, 50), ALL_PARTS / 2);
                DOC.due("in two", x.odds(thing, 2, 50), 0);
            }
        });
        DOC.says("38: OPENERS of each of seven", () -> {
            WaxReign x = Check.kingdom("tw1;tw2;tw3;tw4;tw5;tw6;tw7;r;rk2;rk4;rk6;rk8");
            int[] due = {30, 28, 24, 16, 0, 0, 0};
            for (int thing = 0; thing < 7; thing++) {
                DOC.due("openers(" + thing + ")", x.openers(thing), due[thing]);
            }
        });
        DOC.says("40: HARDEN of each of seven", () -> {
            WaxReign x = Check.kingdom("sh30;th10;th11;th12;th13;th14;th15s1;th16w4;r");
            int[] due = {20, 19, 18, 17, 16, 14, 8};
            for (int thing = 0; thing < 7; thing++) {
                DOC.due("harden(" + thing + ")", x.harden(thing, 1), due[thing]);
            }
        });
    }

    /** What was told apart of a larger KINGDOM is nothing to a smaller one. */
    private static void smallBehindLarge() {
        DOC.says("a smaller KINGDOM behind a larger one is told of as a new one", () -> {
            WaxReign x = Check.kingdom("sw99h40;td9s9;td9s8;td9s7;td9s6;td9s5;td9s4;td9s3;r;r;r;r;r");
            for (int what = 0; what <= 1; what++) {
                x.dealt(24, what);
                x.pack(24, what);
                x.order(what);
            }
            x.least(127, 24, NONE);
            x.who(NONE);
            x.ask();
            Check.put(x, 0, "sw0h10;th8s9d5;th40s0d4;r;r");
            DOC.due("row", x.dealt(1, 0), 1);
            DOC.due("how much", x.dealt(1, 1), 0);
            DOC.due("pack", x.pack(1, 0), 2);
            DOC.due("order", x.order(0), 0);
            DOC.due("least", x.least(3, 1, NONE), 5);
            DOC.due("who", x.who(NONE), 3);
            DOC.due("ask", x.ask(), 1);
        });
    }

    private static void leaves(String call, ToLongFunction<WaxReign> asks) {
        Supplier<WaxReign> made = BoundsForecastTest::realm;
        DOC.says("apart: " + call + " changes nothing", () -> DOC.refuses(call, made, asks, asks.applyAsLong(made.get())));
    }

    private static void apart() {
        leaves("warmth", x -> x.warmth(7));
        leaves("lasts", x -> x.lasts(0));
        leaves("least", x -> x.least(7, 24, NONE));
        leaves("pack", x -> x.pack(24, 0));
        leaves("order", x -> x.order(0));
        leaves("dealt", x -> x.dealt(24, 0));
        leaves("who", x -> x.who(0));
        leaves("ask", WaxReign::ask);
        leaves("game", x -> x.game(0, 2, 0, 1, 1, 1));
        leaves("rests", x -> x.rests(0, 2, 0, NONE));
        leaves("odds", x -> x.odds(0, 12, 50));
        leaves("all", x -> x.all(0));
        leaves("known", x -> x.known(0));
        leaves("spare", x -> x.spare(0));
        leaves("openers", x -> x.openers(0));
        leaves("tells", x -> x.tells(0));
        leaves("harden", x -> x.harden(0, 24));
    }
}
