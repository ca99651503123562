/** Promises 23 to 40: what is told apart from what is done. */
public final class ForecastTest {
    private static final Check CHECK = new Check("ForecastTest");

    public static void main(String[] args) {
        warmth();
        lasts();
        least();
        pack();
        order();
        dealt();
        noted();
        who();
        ask();
        game();
        rests();
        odds();
        all();
        knownTellsOpeners();
        manyThingsAndRings();
        spare();
        harden();
        CHECK.ends();
    }

    private static void warmth() {
        WaxReign x = Check.kingdom("sh7;t;r");
        int[] due = {7, 9, 11, 13, 15, 17, 19, 17, 15, 13, 11, 9};
        for (int n = 0; n <= 60; n++) {
            CHECK.same("warmth(" + n + ")", x.warmth(n), due[n % 12]);
        }
        CHECK.same("61", x.warmth(61), -1);
        CHECK.same("-1", x.warmth(-1), -1);
        x.month();
        x.heat(3);
        CHECK.same("now", x.warmth(0), 5);
        CHECK.same("in eleven", x.warmth(11), 3);
        CHECK.same("no kingdom", new WaxReign().warmth(0), -1);
    }

    private static void lasts() {
        WaxReign x = Check.kingdom("sh10;th9s0w1;th7s0w1;th20s0w1;tw0;th19s0w1;r");
        int[] due = {2, 1, -1, 0, 7};
        for (int thing = 0; thing < 5; thing++) {
            CHECK.same("lasts(" + thing + ")", x.lasts(thing), due[thing]);
        }
        CHECK.same("no such", x.lasts(5), -1);
        CHECK.same("no such", x.lasts(-1), -1);
        CHECK.same("apart", x.count(6), 0);
        WaxReign y = Check.kingdomUnder("y:m=11?0;y:99", "sh1;t;r");
        CHECK.same("in the last of a year", y.lasts(0), 12);
        y.years(12, 1);
        CHECK.same("it melted", y.lasts(0), 0);
    }

    private static void least() {
        WaxReign x = Check.kingdom("sw0h10;th9s0w1;th18s0w2;tw0;th20s0w1;th0s0w1;r");
        CHECK.same("11 holds 10", x.least(1, 1, -1), 0);
        CHECK.same("12 needs one", x.least(1, 2, -1), 1);
        CHECK.same("22 needs six", x.least(1, 7, -1), 6);
        CHECK.same("22 in a year", x.least(1, 24, -1), 6);
        CHECK.same("together", x.least(15, 24, -1), 6);
        CHECK.same("of the first", x.least(15, 24, 0), 6);
        CHECK.same("of the second", x.least(15, 24, 1), 0);
        CHECK.same("of the open one", x.least(15, 24, 2), 0);
        CHECK.same("open ones alone", x.least(4, 24, -1), 0);
        CHECK.same("not by nine", x.least(16, 24, -1), -1);
        CHECK.same("not by nine with others", x.least(31, 24, -1), -1);
        CHECK.same("not by nine on one of these", x.least(31, 24, 0), -1);
        CHECK.same("nine on it just does", x.least(16, 5, 4), 8);
        CHECK.same("nine on it does not", x.least(16, 6, 4), -1);
        int[][] none = {{0, 1, -1}, {32, 1, -1}, {-1, 1, -1}, {1, 0, -1}, {1, 25, -1}, {1, 1, 1}, {1, 1, 5}, {1, 1, -2},
            {Integer.MIN_VALUE, 1, -1}, {1, 1, 32}, {1, 1, Integer.MIN_VALUE}, {33, 1, -1}};
        for (int[] call : none) {
            CHECK.same("no such least", x.least(call[0], call[1], call[2]), -1);
        }
        WaxReign y = Check.kingdomUnder("y:w=3?40;y:w=5?40;y:0", "sh10;tw2;tw4;tw6;r");
        CHECK.same("the least by which it holds", y.least(3, 24, 0), 1);
        CHECK.same("of the other", y.least(3, 24, 1), 1);
        CHECK.same("too much is on it", y.least(4, 24, 2), -1);
    }

    private static void pack() {
        String things = ";th10s0w1d5;th10s0w1d4;th10s0w1d3;th40w9s0d1;tw0d9;th0s0w1d9;r";
        int[] kept = {8, 8, 8, 8, 8, 9, 9, 9, 9, 9, 11, 11, 11, 11, 11, 15};
        int[] depth = {1, 1, 1, 1, 1, 6, 6, 6, 6, 6, 10, 10, 10, 10, 10, 13};
        for (int wax = 0; wax < kept.length; wax++) {
            WaxReign x = Check.kingdom("sh10w" + wax + things);
            CHECK.same("pack by " + wax, x.pack(24, 0), kept[wax]);
            CHECK.same("depth by " + wax, x.pack(24, 1), depth[wax]);
        }
        WaxReign x = Check.kingdom("sh10w5;th10s0w1d3;th10s0w1d3;th40w9s0d0;r");
        CHECK.same("of several the least", x.pack(24, 0), 1);
        CHECK.same("in few months nothing is needed", x.pack(2, 0), 3);
        int[][] none = {{0, 0}, {25, 0}, {1, 2}, {1, -1}};
        for (int[] call : none) {
            CHECK.same("no such pack", x.pack(call[0], call[1]), -1);
        }
        CHECK.same("no kingdom", new WaxReign().pack(1, 0), -1);
    }

    private static void order() {
        WaxReign x = Check.kingdom("sh10;th15s0w1;th11s0w1;th9s0w1;tw0;th12s0w1;th7s0w1;th20s0w1;r");
        CHECK.same("order", x.order(0), 52140);
        CHECK.same("many", x.order(1), 5);
        CHECK.same("what", x.order(2), -1);
        CHECK.same("what", x.order(-1), -1);
        WaxReign none = Check.kingdom("sh10;th40w9;r");
        CHECK.same("none", none.order(0), -1);
        CHECK.same("none", none.order(1), 0);
        WaxReign first = Check.kingdom("sh10;t;r");
        CHECK.same("the first alone", first.order(0), 0);
        CHECK.same("one", first.order(1), 1);
        WaxReign y = Check.kingdomUnder("y:h<20&m=0?0;y:99", "sh10;th1;th2;r");
        y.open(0);
        y.month();
        y.seal(0, 1);
        CHECK.same("within 24", y.order(0), 0);
        CHECK.same("no kingdom", new WaxReign().order(0), -1);
    }

    private static void dealt() {
        WaxReign x = Check.kingdom("sh10;th13s0w1d5;th20s5w1d4;th16s9w1d3;r");
        // Suns 0, 5, 9; in one month warmth is 10: the first holds 15, 10, 6, the second and the third all.
        CHECK.same("nothing melts", x.dealt(1, 1), 0);
        CHECK.same("row", x.dealt(1, 0), 21);
        WaxReign y = Check.kingdom("sh20;td5s1;td4s2;td3s3;r");
        CHECK.same("all melt", y.dealt(1, 1), 12);
        CHECK.same("the least row", y.dealt(1, 0), 12);
        WaxReign z = Check.kingdom("sh10;tw0d9s0;th9s9w1d5;r");
        CHECK.same("an open one gets sun", z.dealt(1, 0), 10);
        CHECK.same("kept", z.dealt(1, 1), 0);
        CHECK.same("not for long", z.dealt(7, 1), 5);
        CHECK.same("the least row", z.dealt(7, 0), 1);
        CHECK.same("apart", z.thing(1, 3), 9);
        int[][] none = {{0, 0}, {25, 0}, {1, 2}, {1, -1}};
        for (int[] call : none) {
            CHECK.same("no such deal", x.dealt(call[0], call[1]), -1);
        }
        CHECK.same("no kingdom", new WaxReign().dealt(1, 0), -1);
    }

    private static void noted() {
        WaxReign x = Check.kingdom("t;t;r;r");
        int[][] none = {{2, 0}, {-1, 0}, {0, 2}, {0, -1}};
        for (int[] call : none) {
            CHECK.same("no such note", x.noted(call[0], call[1], true), -1);
        }
        for (int i = 1; i <= 10; i++) {
            CHECK.same("noted", x.noted(0, 0, true), i);
        }
        CHECK.same("there are ten", x.noted(0, 0, true), -1);
        CHECK.same("ten", x.count(9), 10);
        CHECK.same("it is no act", x.undo(), -1);
    }

    private static void whoIs(WaxReign x, int... due) {
        CHECK.same("how many", x.who(-1), due.length);
        for (int i = 0; i < due.length; i++) {
            CHECK.same("who(" + i + ")", x.who(i), due[i]);
        }
        CHECK.same("no more", x.who(due.length), -1);
        CHECK.same("no such", x.who(-2), -1);
    }

    private static void who() {
        CHECK.same("no kingdom", new WaxReign().who(-1), -1);
        WaxReign x = Check.kingdom("to1;to2w2;rk4;r;r");
        whoIs(x, 0, 2, 10, 11, 99);
        x.noted(1, 0, true);
        whoIs(x, 0, 2, 10, 11, 99);
        x.noted(0, 0, false);
        whoIs(x, 2, 10, 11, 99);
        x.pry(1, 0);
        whoIs(x, 2, 11, 99);
        x.noted(1, 1, true);
        whoIs(x, 11);
        x.noted(2, 0, true);
        whoIs(x);
        WaxReign y = Check.kingdom("t;r");
        whoIs(y, 99);
        y.noted(0, 0, false);
        whoIs(y);
    }

    private static void ask() {
        CHECK.same("no kingdom", new WaxReign().ask(), -1);
        WaxReign x = Check.kingdom("to0;to2;r;r;r");
        // 1, 2, 10, 11, 99: the first of what one of these tells.
        CHECK.same("ask", x.ask(), 1);
        x.noted(1, 0, false);
        CHECK.same("ask", x.ask(), 2);
        x.noted(2, 0, false);
        CHECK.same("ask", x.ask(), 10);
        x.noted(0, 1, true);
        CHECK.same("one is left: all are one apart", x.ask(), 0);
        x.noted(0, 1, false);
        CHECK.same("nothing fits", x.ask(), -1);
        WaxReign y = Check.kingdom("t;r");
        CHECK.same("as now alone", y.ask(), 0);
    }

    private static void games(WaxReign x, int one, int other, int... due) {
        for (int i = 0; i < 4; i++) {
            String what = "game of " + one + " and " + other + " by " + i;
            CHECK.same(what, x.game(one, other, 0, i / 2, i % 2, 0), due[2 * i]);
            CHECK.same(what, x.game(one, other, 0, i / 2, i % 2, 1), due[2 * i + 1]);
        }
    }

    private static void game() {
        WaxReign x = Check.kingdom("to2w2d7;tw0;rk4;rk3;r;rk9;rk0");
        games(x, 0, 3, 0, 0, 0, 7, 7, 0, 3, 3);
        games(x, 0, 1, 0, 0, 0, 4, 7, 0, 3, 0);
        games(x, 1, 0, 0, 0, 0, 7, 4, 0, 0, 3);
        games(x, 1, 4, 0, 0, 0, 4, 4, 0, 0, 3);
        int[][] none = {{0, 0, 0, 0, 0, 0}, {2, 0, 0, 0, 0, 0}, {0, 2, 0, 0, 0, 0}, {0, 1, 1, 0, 0, 0}, {0, 1, 2, 0, 0, 0},
            {0, 1, -1, 0, 0, 0}, {5, 1, 0, 0, 0, 0}, {-1, 1, 0, 0, 0, 0}, {1, 5, 0, 0, 0, 0}, {1, -1, 0, 0, 0, 0},
            {0, 1, 0, 2, 0, 0}, {0, 1, 0, -1, 0, 0}, {0, 1, 0, 0, 2, 0}, {0, 1, 0, 0, -1, 0}, {0, 1, 0, 0, 0, 2}, {0, 1, 0, 0, 0, -1}};
        for (int[] c : none) {
            CHECK.same("no such game", x.game(c[0], c[1], c[2], c[3], c[4], c[5]), -1000000);
        }
        CHECK.same("apart", x.thing(0, 5) + x.count(11) + x.ring(1, 1), 4);
    }

    private static void restsAre(WaxReign x, int one, int other, int... due) {
        CHECK.same("how many rests", x.rests(one, other, 0, -1), due.length);
        for (int i = 0; i < due.length; i++) {
            CHECK.same("rest " + i, x.rests(one, other, 0, i), due[i]);
        }
        CHECK.same("no more", x.rests(one, other, 0, due.length), -1);
        CHECK.same("no such", x.rests(one, other, 0, -2), -1);
    }

    private static void rests() {
        WaxReign x = Check.kingdom("to2w2d7;tw0;rk4;rk3;r;rk9;rk0");
        restsAre(x, 0, 3, 11);
        restsAre(x, 0, 1, 10, 11);
        restsAre(x, 1, 4, 1, 11);
        WaxReign nothing = Check.kingdom("to2w2d0;rk9;rk9;r");
        restsAre(nothing, 0, 1, 0, 1, 10, 11);
        WaxReign scars = Check.kingdom("to2w2d2;rk0;rk0;r");
        restsAre(scars, 0, 1, 0);
        WaxReign even = Check.kingdom("to2w2d5;rk0;rk0;r");
        restsAre(even, 0, 1, 1);
        int[][] none = {{0, 0, 0}, {2, 0, 0}, {0, 2, 0}, {0, 1, 1}, {0, 1, 2}, {0, 1, -1}, {5, 1, 0}, {0, 5, 0}};
        for (int[] c : none) {
            CHECK.same("no such game", x.rests(c[0], c[1], c[2], -1), -1);
        }
    }

    private static void odds() {
        WaxReign x = Check.kingdom("sh10;th15s0w1;tw0;r");
        // It holds 17; warmth is 10, 12, 14, 16, 18.
        CHECK.same("no months", x.odds(0, 0, 50), 1000000000);
        CHECK.same("two", x.odds(0, 2, 99), 1000000000);
        CHECK.same("three", x.odds(0, 3, 33), 670000000);
        CHECK.same("four", x.odds(0, 4, 33), 448900000);
        CHECK.same("five", x.odds(0, 5, 0), 0);
        CHECK.same("never hotter", x.odds(0, 4, 0), 1000000000);
        CHECK.same("ever hotter", x.odds(0, 4, 100), 0);
        CHECK.same("open", x.odds(1, 0, 0), 0);
        int[][] none = {{2, 0, 0}, {-1, 0, 0}, {0, -1, 0}, {0, 13, 0}, {0, 0, -1}, {0, 0, 101}};
        for (int[] c : none) {
            CHECK.same("no such odds", x.odds(c[0], c[1], c[2]), -1);
        }
        WaxReign y = Check.kingdomUnder("y:14+m*2-m/7*[m-6]*4", "sh10;t;r");
        long left = 1000000000L;
        for (int n = 1; n <= 12; n++) {
            left -= left * 37 / 100;
            CHECK.same("what is hotter is cut", y.odds(0, n, 37), left);
        }
    }

    private static void all() {
        WaxReign x = Check.kingdom("th20s4w2d3;th10s9w0d9;th12s1w1d5;th12s1w1d5o1;th30s4w1d1;rk2;rk5;rk5;rk1");
        CHECK.same("softest", x.all(0), 2);
        CHECK.same("deepest", x.all(1), 2);
        CHECK.same("hottest", x.all(2), 0);
        CHECK.same("skilled", x.all(3), 1);
        CHECK.same("scarred", x.all(4), 0);
        CHECK.same("sealed", x.all(5), 29);
        CHECK.same("secrets", x.all(6), 31);
        CHECK.same("waxed", x.all(7), 5);
        CHECK.same("forged", x.all(8), 0);
        CHECK.same("coolest", x.all(9), 0);
        x.pry(0, 3);
        x.pry(2, 1);
        CHECK.same("hottest", x.all(2), 4);
        CHECK.same("scarred", x.all(4), 3);
        CHECK.same("sealed", x.all(5), 28);
        CHECK.same("secrets", x.all(6), 26);
        CHECK.same("waxed", x.all(7), 3);
        CHECK.same("forged", x.all(8), 1);
        x.heat(40);
        x.month();
        for (int what = 0; what < 3; what++) {
            CHECK.same("all are open", x.all(what), -1);
        }
        CHECK.same("coolest", x.all(9), 11);
        CHECK.same("no such", x.all(10), -1);
        CHECK.same("no such", x.all(-1), -1);
        for (int what = 0; what < 10; what++) {
            CHECK.same("no kingdom", new WaxReign().all(what), -1);
        }
    }

    private static void knownTellsOpeners() {
        WaxReign x = Check.kingdom("to0w1d4;to1w2d5;to1w0d6;rk4;rk2;rk3");
        CHECK.same("known(0)", x.known(0), 1);
        CHECK.same("known(1)", x.known(1), 6);
        CHECK.same("known(2)", x.known(2), 0);
        CHECK.same("openers(0)", x.openers(0), 6);
        CHECK.same("openers(1)", x.openers(1), 1);
        CHECK.same("it is open", x.openers(2), -1);
        CHECK.same("no such", x.openers(3), -1);
        CHECK.same("no such", x.openers(-1), -1);
        CHECK.same("its own tell nothing", x.tells(1), 0);
        x.pry(1, 2);
        x.pry(0, 2);
        CHECK.same("known(2)", x.known(2), 3);
        CHECK.same("tells(2)", x.tells(2), 9);
        CHECK.same("it is open now", x.openers(1), -1);
        CHECK.same("less skilled", x.openers(0), 6);
        for (int ring : new int[] {3, -1, Integer.MAX_VALUE}) {
            CHECK.same("no such", x.known(ring), -1);
            CHECK.same("no such", x.tells(ring), -1);
        }
    }

    private static void manyThingsAndRings() {
        WaxReign x = Check.kingdom("sh10w10;td1;td2;td3;td4;td5;td6;td7;rk0;r;r;r;rk2");
        // Each holds 15 and needs four for a year.
        CHECK.same("two of seven are kept", x.pack(24, 0), 96);
        CHECK.same("depth", x.pack(24, 1), 13);
        CHECK.same("least for all seven", x.least(127, 24, -1), 28);
        CHECK.same("no eighth", x.least(128, 24, -1), -1);
        CHECK.same("all seven in order", x.order(0), 123456);
        CHECK.same("seven", x.order(1), 7);
        CHECK.same("dealt", x.dealt(24, 0), 123456);
        CHECK.same("depth of all", x.dealt(24, 1), 28);
        WaxReign y = Check.kingdom("to1;r;r;r;r;rk2");
        for (int i = 0; i < 9; i++) {
            y.open(0);
            y.seal(0, 2);
            y.pry(0, 0);
            y.seal(0, 1);
        }
        CHECK.same("nine scars", y.ring(0, 1), 9);
        CHECK.same("scars are no skill", y.openers(0), 28);
        CHECK.same("who", y.who(-1), 4);
        CHECK.same("ask", y.ask(), 2);
    }

    private static void spare() {
        WaxReign x = Check.kingdom("sh10;th10s0w1;th0s0w1;tw0;r");
        CHECK.same("spare", x.spare(0), 2);
        CHECK.same("less", x.spare(1), -8);
        CHECK.same("open", x.spare(2), -1000000);
        CHECK.same("no such", x.spare(3), -1000000);
        CHECK.same("no such", x.spare(-1), -1000000);
        x.month();
        CHECK.same("in the next month", x.spare(0), 0);
    }

    private static void harden() {
        WaxReign x = Check.kingdom("sh10;th10s0w1;th40w9;tw0;th0w1s9;r");
        CHECK.same("none", x.harden(0, 1), 0);
        CHECK.same("two months", x.harden(0, 2), 0);
        CHECK.same("three", x.harden(0, 3), 2);
        CHECK.same("a year", x.harden(0, 12), 10);
        CHECK.same("two years", x.harden(0, 24), 10);
        CHECK.same("hard already", x.harden(1, 24), 0);
        CHECK.same("open", x.harden(2, 1), -1);
        int[][] none = {{4, 1}, {-1, 1}, {0, 0}, {0, 25}, {0, -1}};
        for (int[] c : none) {
            CHECK.same("no such", x.harden(c[0], c[1]), -1);
        }
        WaxReign hot = Check.kingdom("sh33;th0w1s0;th0w1s9;r");
        CHECK.same("40 and 2 hold 41", hot.harden(0, 5), 39);
        CHECK.same("43 is too much", hot.harden(0, 6), -1);
        CHECK.same("33 and 9", hot.harden(1, 1), 40);
        CHECK.same("35 and 9", hot.harden(1, 2), -1);
        WaxReign y = Check.kingdomUnder("y:h=80?99;y:0", "th40w9;r");
        CHECK.same("beyond 40 by 40", y.harden(0, 24), 40);
    }
}
