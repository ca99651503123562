/** Promises 6 to 19, 21, 22, 41 to 43: what is told, the ACTS, YEARS, the LOG, UNDO, REIGNS done, IMAGES, counts. */
public final class ActsTest {
    private static final Check CHECK = new Check("ActsTest");

    public static void main(String[] args) {
        rulesThingsRings();
        laws();
        knives();
        months();
        shame();
        endOfTime();
        seals();
        opens();
        pries();
        carriesAndHeats();
        years();
        yearsWithKnives();
        undoesAll();
        undoesManyMonths();
        logs();
        runs();
        runAtTheEndOfTime();
        performs();
        images();
        counts();
        CHECK.ends();
    }

    private static void rulesThingsRings() {
        WaxReign x = Check.kingdom("rk7;sb3w41h12;tw4d6o1s8h33;t;r");
        CHECK.same("wax", x.rule(0), 41);
        CHECK.same("heat", x.rule(1), 12);
        CHECK.same("bees", x.rule(2), 3);
        CHECK.same("rule(3)", x.rule(3), -1);
        CHECK.same("rule(-1)", x.rule(-1), -1);
        int[] due = {1, 33, 6, 8, 4, 2, 33 + 8 - 8};
        int[] without = {0, 15, 3, 2, 1, 1, 15};
        for (int what = 0; what < 7; what++) {
            CHECK.same("thing(0, " + what + ")", x.thing(0, what), due[what]);
            CHECK.same("thing(1, " + what + ")", x.thing(1, what), without[what]);
        }
        int[][] none = {{-1, 0}, {2, 0}, {0, -1}, {0, 7}, {Integer.MAX_VALUE, 0}, {0, Integer.MIN_VALUE}};
        for (int[] call : none) {
            CHECK.noSuchThing(x, call[0], call[1]);
        }
        CHECK.same("ring(0, 0)", x.ring(0, 0), 7);
        CHECK.same("ring(0, 1)", x.ring(0, 1), 0);
        CHECK.same("ring(1, 0)", x.ring(1, 0), 3);
        CHECK.same("ring(2, 0)", x.ring(2, 0), -1);
        CHECK.same("ring(-1, 0)", x.ring(-1, 0), -1);
        CHECK.same("ring(0, 2)", x.ring(0, 2), -1);
        CHECK.same("ring(0, -1)", x.ring(0, -1), -1);
        CHECK.same("held at 0", Check.kingdom("th0w1s9;r").thing(0, 6), 0);
        rulesBehindAllElse();
    }

    private static void rulesBehindAllElse() {
        WaxReign x = Check.kingdom("to1h2d4s5w6;to4;t;t;t;t;to3h7d8s9w0;rk1;rk2;rk3;rk4;rk5;sw1h2b3");
        int[] first = {1, 2, 4, 5, 6};
        int[] last = {3, 7, 8, 9, 0};
        for (int what = 0; what < 5; what++) {
            CHECK.same("the first of seven, " + what, x.thing(0, what), first[what]);
            CHECK.same("the last of seven, " + what, x.thing(6, what), last[what]);
            CHECK.same("skill of the five", x.ring(what, 0), what + 1);
        }
        CHECK.same("the second of seven", x.thing(1, 0), 4);
        CHECK.same("rules", x.rule(0) * 100 + x.rule(1) * 10 + x.rule(2), 123);
    }

    private static void holds(String law, int due) {
        WaxReign x = Check.kingdomUnder(law, "sh0;th21w3s4d5;rk6");
        x.month();
        CHECK.same("holds by " + law, x.thing(0, 6), due);
    }

    private static void laws() {
        holds("y:h", 21);
        holds("y:w", 3);
        holds("y:s", 4);
        holds("y:m+1", 2);
        holds("y:d", 5);
        holds("y:k", 6);
        holds("y:9999", 99);
        holds("y:1-2", 0);
        holds("y:2+3*4", 14);
        holds("y:[2+3]*4", 20);
        holds("y:20-3-4", 13);
        holds("y:40/4/2", 5);
        holds("y:7/2*2", 6);
        holds("y:10-[1-8]/2", 13);
        holds("y:10+[1-8]/2", 7);
        holds("y:5/0+3", 3);
        holds("y:5/[h-h]", 0);
        holds("y:9999*9999/9999", 99);
        holds("y:9999*9999/9999-90", 10);
        holds("y:9999*9999*9999/9999-90", 10);
        holds("y:50+[0-9999*9999]/9999+[9999*9999]/9999", 50);
        holds("y:9999*9999+9999-9999*9999+10", 10);
        holds("y:0-9999*9999-9999+9999*9999+10", 10);
        holds("y:[9999*100+200-9999*100]", 99);
        holds("y:[9999*100+90-9999*100]", 90);
        holds("y:9999*9999-9999*100-50", 50);
        holds("y:[0-9999*9999]+9999*100+150", 50);
        holds("y:9999*9999+1-9999*100-50", 50);
        holds("y:h=21?7;y:8", 7);
        holds("y:h=22?7;y:8", 8);
        holds("y:h=22?7", 0);
        holds("y:h<21?1;y:h>21?2;y:h<22?3", 3);
        holds("y:h>20?1;y:2", 1);
        holds("y:3;y:4", 3);
        holds("y:1=1|1=2&1=2?1;y:2", 1);
        holds("y:(1=1|1=2)&1=2?1;y:2", 2);
        holds("y:1=2&1=1|1=1?1;y:2", 1);
        holds("y:1=2|1=1&1=2?1;y:2", 2);
        holds("y:!1=1|1=1?1;y:2", 1);
        holds("y:!(1=1|1=1)?1;y:2", 2);
        holds("y:!!h=21?1;y:2", 1);
        holds("y:!1=2&1=2?1;y:2", 2);
        holds("y:[h+w]*2>s*d+27&!(m<1|k=5)?[d+1]*k-2;y:2", 34);
        holds(" y : h + 10 ", 31);
        WaxReign x = Check.kingdom("th10;r");
        CHECK.isTrue("law(NONE) when none holds", x.law(-1));
        CHECK.isFalse("law(0) when none is told", x.law(0));
        Check.put(x, 1, "y:1");
        Check.put(x, 1, "y:2");
        CHECK.same("a told one does not hold yet", x.count(5), -1);
        CHECK.isTrue("law(1)", x.law(1));
        CHECK.isTrue("law(1) again", x.law(1));
        CHECK.same("holds", x.thing(0, 6), 2);
        CHECK.isFalse("law(2)", x.law(2));
        CHECK.isFalse("law(-2)", x.law(-2));
        CHECK.same("refused ones change nothing", x.count(5), 1);
        CHECK.isTrue("law(NONE)", x.law(-1));
        CHECK.same("holds by none", x.thing(0, 6), 10);
    }

    private static void knives() {
        WaxReign x = new WaxReign();
        CHECK.isFalse("it is so", x.knives(0));
        CHECK.isTrue("knives(9)", x.knives(9));
        CHECK.isFalse("knives(9) again", x.knives(9));
        CHECK.isFalse("knives(10)", x.knives(10));
        CHECK.isFalse("knives(-1)", x.knives(-1));
        CHECK.same("knives", x.count(8), 9);
        CHECK.isTrue("knives(0)", x.knives(0));
    }

    private static void months() {
        WaxReign x = Check.kingdom("sh10w99b9;th10s0w1d4;th12s0w1d2;th39w9;r;r");
        CHECK.same("12 holds 10", x.month(), 0);
        CHECK.same("12 holds 12", x.month(), 0);
        CHECK.same("12 does not hold 14", x.month(), 1);
        CHECK.same("open", x.thing(0, 4), 0);
        CHECK.same("all know", x.thing(0, 5), 3);
        CHECK.same("the other is kept", x.thing(1, 5), 1);
        CHECK.same("shame", x.count(7), 4);
        CHECK.same("then the other one", x.month(), 1);
        CHECK.same("shame grows", x.count(7), 6);
        CHECK.same("time", x.count(6), 4);
        CHECK.same("bees", x.rule(0), 99 + 36);
        for (int i = 4; i < 100; i++) {
            CHECK.same("the rest holds", x.month(), 0);
        }
        CHECK.same("nine a month", x.rule(0), 999);
        x.month();
        CHECK.same("999 at most", x.rule(0), 999);
        CHECK.same("melted wax is gone", x.all(7), 9);
        WaxReign y = Check.kingdomUnder("y:m*40", "sh10;t;r");
        CHECK.same("the month is the one that goes by", y.month(), 1);
        WaxReign two = Check.kingdom("sh40;t;t;tw0;r");
        CHECK.same("two melt", two.month(), 2);
        CHECK.same("which", two.log(0, 1), 3);
    }

    private static void shame() {
        WaxReign x = Check.kingdom("sh40;td7;td8;rk9;rk9");
        CHECK.same("the other pries", x.pry(0, 1), 1);
        CHECK.same("both melt", x.month(), 2);
        CHECK.same("no shame for what all knew", x.count(7), 8);
        x.seal(1, 1);
        CHECK.same("it melts again", x.month(), 1);
        CHECK.same("no more shame", x.count(7), 8);
        CHECK.same("all know on", x.thing(1, 5), 3);
        WaxReign one = Check.kingdom("sh40;td7;r");
        one.month();
        CHECK.same("one ring alone", one.count(7), 0);
    }

    private static WaxReign atTheEnd(int monthsLeft) {
        WaxReign x = Check.kingdom("th40w9s0;r");
        int left = 9999 - monthsLeft;
        while (left > 0) {
            int n = Math.min(60, left);
            x.years(n, 5);
            left -= n;
        }
        return x;
    }

    private static void endOfTime() {
        WaxReign x = atTheEnd(2);
        CHECK.same("time", x.count(6), 9997);
        CHECK.same("three are too many", x.years(3, 1), -1);
        CHECK.same("a month", x.month() >= 0 ? 1 : 0, 1);
        CHECK.same("two are too many", x.years(2, 1), -1);
        CHECK.same("the last one", x.years(1, 1), 9999);
        CHECK.same("none goes by", x.month(), -1);
        CHECK.same("nor by years", x.years(1, 1), -1);
        CHECK.same("time", x.count(6), 9999);
        CHECK.same("undo count is 40 at most", x.count(11), 40);
        CHECK.same("undo", x.undo(), 39);
        CHECK.same("time", x.count(6), 9998);
        x.month();
        x.heat(0);
        x.open(0);
        x.seal(0, 1);
        CHECK.same("apart it goes on: month 9999 modulo 12 is 3", x.warmth(1), 8);
        x.law(Check.put(x, 1, "y:9"));
        CHECK.same("warmth 6 8 10", x.lasts(0), 3);
        CHECK.same("in two it holds", x.odds(0, 2, 0), 1000000000);
        CHECK.same("in three not", x.odds(0, 3, 0), 0);
    }

    private static void seals() {
        WaxReign x = Check.kingdom("sw12;tw0;tw7;r");
        CHECK.same("on an open one", x.seal(0, 3), 3);
        CHECK.same("wax less", x.rule(0), 9);
        CHECK.same("sealed again", x.all(5), 3);
        CHECK.same("ten", x.seal(1, 3), -1);
        CHECK.same("nine", x.seal(1, 2), 9);
        CHECK.same("above", x.seal(1, 1), -1);
        CHECK.same("none", x.seal(0, 0), -1);
        CHECK.same("below", x.seal(0, -1), -1);
        CHECK.same("least int", x.seal(0, Integer.MIN_VALUE), -1);
        CHECK.same("greatest int", x.seal(0, Integer.MAX_VALUE), -1);
        CHECK.same("ten of it", x.seal(0, 10), -1);
        CHECK.same("no such", x.seal(2, 1), -1);
        CHECK.same("no such", x.seal(-1, 1), -1);
        x.open(0);
        CHECK.same("wax", x.rule(0), 10);
        CHECK.same("nine at once", x.seal(0, 9), 9);
        x.pry(0, 1);
        x.open(1);
        x.open(0);
        CHECK.same("wax", x.rule(0), 19);
        WaxReign y = Check.kingdom("sw2;tw1;r");
        CHECK.same("too little", y.seal(0, 3), -1);
        CHECK.same("acts", y.count(11), 0);
        CHECK.same("all there is", y.seal(0, 2), 3);
        CHECK.same("none left", y.rule(0), 0);
        CHECK.same("acts", y.count(11), 1);
    }

    private static void opens() {
        WaxReign x = Check.kingdom("sw5;tw4o1;tw0;r;r");
        CHECK.same("open", x.open(0), 9);
        CHECK.same("wax on it", x.thing(0, 4), 0);
        CHECK.same("none knows more", x.thing(0, 5), 2);
        CHECK.same("again", x.open(0), -1);
        CHECK.same("open at first", x.open(1), -1);
        CHECK.same("no such", x.open(2), -1);
        CHECK.same("no such", x.open(-1), -1);
        WaxReign y = Check.kingdom("sw99b9;th40w9s0;r");
        for (int i = 0; i < 99; i++) {
            y.month();
        }
        CHECK.same("wax", y.rule(0), 990);
        CHECK.same("999 just so", y.open(0), 999);
        y.seal(0, 9);
        y.month();
        CHECK.same("999 at most", y.open(0), 999);
        CHECK.same("and it is open", y.thing(0, 4), 0);
    }

    private static void pries() {
        WaxReign x = Check.kingdom("to1w2;tw0;to0w3;rk4;rk9;rk3;rk0");
        CHECK.same("skill is twice the wax", x.pry(0, 0), 1);
        CHECK.same("left as it was", x.thing(0, 4), 2);
        CHECK.same("it knows", x.thing(0, 5), 3);
        CHECK.same("forged", x.all(8), 1);
        CHECK.same("no scar", x.ring(0, 1), 0);
        CHECK.same("skill stays", x.ring(0, 0), 4);
        CHECK.same("again", x.pry(0, 0), 1);
        CHECK.same("forged twice", x.all(8), 2);
        CHECK.same("its own", x.pry(0, 1), -1);
        CHECK.same("it is open", x.pry(1, 1), -1);
        CHECK.same("no such thing", x.pry(3, 1), -1);
        CHECK.same("no such thing", x.pry(-1, 1), -1);
        CHECK.same("no such ring", x.pry(0, 4), -1);
        CHECK.same("no such ring", x.pry(0, -1), -1);
        CHECK.same("skill is one too little", x.pry(0, 2), 0);
        CHECK.same("open", x.thing(0, 4), 0);
        CHECK.same("it knows", x.thing(0, 5), 7);
        CHECK.same("a scar", x.ring(2, 1), 1);
        CHECK.same("skill less", x.ring(2, 0), 2);
        CHECK.same("the wax is gone", x.rule(0), 20);
        CHECK.same("open then", x.pry(0, 3), -1);
        CHECK.same("no shame", x.count(7), 0);
        for (int i = 0; i < 11; i++) {
            x.seal(0, 1);
            CHECK.same("without skill", x.pry(0, 3), 0);
            CHECK.same("skill 0 at least", x.ring(3, 0), 0);
            CHECK.same("scars 9 at most", x.ring(3, 1), Math.min(9, i + 1));
        }
    }

    private static void carriesAndHeats() {
        WaxReign x = Check.kingdom("sh10;ts2;r");
        CHECK.same("carry", x.carry(0, 9), 2);
        CHECK.same("holds less", x.thing(0, 6), 8);
        CHECK.same("it is so", x.carry(0, 9), -1);
        CHECK.same("out of bounds", x.carry(0, 10), -1);
        CHECK.same("out of bounds", x.carry(0, -1), -1);
        CHECK.same("no such", x.carry(1, 1), -1);
        CHECK.same("back", x.carry(0, 0), 9);
        CHECK.same("heat", x.heat(40), 10);
        CHECK.same("it is so", x.heat(40), -1);
        CHECK.same("out of bounds", x.heat(41), -1);
        CHECK.same("out of bounds", x.heat(-1), -1);
        CHECK.same("heat 0", x.heat(0), 40);
        CHECK.same("acts", x.count(11), 4);
        CHECK.same("undone", x.undo(), 3);
        CHECK.same("heat", x.rule(1), 40);
        x.undo();
        x.undo();
        CHECK.same("sun", x.thing(0, 3), 9);
        CHECK.same("undone", x.undo(), 0);
        CHECK.same("sun", x.thing(0, 3), 2);
        CHECK.same("none", x.undo(), -1);
    }

    private static int draw(long[] x, int j) {
        x[0] = x[0] * 6364136223846793005L + 1442695040888963407L;
        return (int) ((x[0] >>> 33) % j);
    }

    private static void years() {
        for (long seed : new long[] {0, 1, -1, 77, Long.MIN_VALUE, Long.MAX_VALUE}) {
            WaxReign x = Check.kingdom("sh2;th40w9s0;r");
            long[] drawn = {seed};
            int heat = 2;
            for (int i = 0; i < 60; i++) {
                heat = draw(drawn, 10) >= 5 ? Math.min(40, heat + 1) : Math.max(0, heat - 1);
                draw(drawn, 10);
            }
            CHECK.same("time", x.years(60, seed), 60);
            CHECK.same("heat by seed " + seed, x.rule(1), heat);
            CHECK.same("acts", x.count(11), 40);
            CHECK.same("log", x.count(10), 60);
        }
        WaxReign x = Check.kingdom("t;r");
        CHECK.same("none", x.years(0, 1), -1);
        CHECK.same("below", x.years(-1, 1), -1);
        CHECK.same("61", x.years(61, 1), -1);
        CHECK.same("nothing changed", x.count(11), 0);
        CHECK.same("one", x.years(1, 1), 1);
        CHECK.same("one act", x.count(11), 1);
        CHECK.same("undone", x.undo(), 0);
        CHECK.same("heat, too", x.rule(1), 10);
        CHECK.same("time, too", x.count(6), 0);
    }

    private static void yearsWithKnives() {
        int pried = 0;
        for (long seed = 0; seed < 40; seed++) {
            WaxReign x = Check.kingdom("to1h40w2s0;to0h40w1s0;th40w0s0;rk4;rk3;rk1");
            WaxReign y = Check.kingdom("to1h40w2s0;to0h40w1s0;th40w0s0;rk4;rk3;rk1");
            x.knives(4);
            long[] drawn = {seed};
            for (int i = 0; i < 7; i++) {
                int up = draw(drawn, 10) >= 5 ? 1 : -1;
                y.heat(y.rule(1) + up);
                if (draw(drawn, 10) < 4) {
                    int thing = draw(drawn, 3);
                    int ring = draw(drawn, 3);
                    pried += y.pry(thing, ring) >= 0 ? 1 : 0;
                }
                y.month();
            }
            CHECK.same("years", x.years(7, seed), 7);
            same("knives by seed " + seed, x, y);
            CHECK.same("each month is one act", x.count(11), 7);
        }
        CHECK.isTrue("some were pried", pried > 20);
    }

    private static void same(String what, WaxReign x, WaxReign y) {
        for (int i = 0; i < 3; i++) {
            CHECK.same(what + " rule " + i, x.rule(i), y.rule(i));
        }
        for (int thing = 0; thing < x.count(0); thing++) {
            for (int i = 3; i <= 6; i++) {
                CHECK.same(what + " thing " + thing + " " + i, x.thing(thing, i), y.thing(thing, i));
            }
        }
        for (int ring = 0; ring < x.count(1); ring++) {
            CHECK.same(what + " skill " + ring, x.ring(ring, 0), y.ring(ring, 0));
            CHECK.same(what + " scars " + ring, x.ring(ring, 1), y.ring(ring, 1));
        }
        CHECK.same(what + " shame", x.count(7), y.count(7));
        CHECK.same(what + " time", x.count(6), y.count(6));
        CHECK.same(what + " forged", x.all(8), y.all(8));
        CHECK.same(what + " log", x.count(10), y.count(10));
        for (int i = 0; i < x.count(10); i++) {
            for (int part = 0; part < 3; part++) {
                CHECK.same(what + " log " + i + " " + part, x.log(i, part), y.log(i, part));
            }
        }
    }

    private static final String REALM = "sw9h12b1;to1h14d5s2w2;to0h9d4s1w1;th30d2w0;rk4;rk3;rk1";

    /** One ACT of each kind, some of which can't be. */
    private static void act(WaxReign x, int i) {
        switch (i % 9) {
            case 0:
                x.month();
                break;
            case 1:
                x.seal(i % 3, 1 + i % 2);
                break;
            case 2:
                x.pry(i % 2, (i / 2) % 3);
                break;
            case 3:
                x.open(i % 3);
                break;
            case 4:
                x.carry(i % 3, i % 10);
                break;
            case 5:
                x.heat(i % 17);
                break;
            case 6:
                x.years(1, i);
                break;
            default:
                x.seal(i % 2, 1);
                break;
        }
    }

    private static void undoesAll() {
        WaxReign x = Check.kingdom(REALM);
        x.knives(6);
        for (int i = 0; i < 120; i++) {
            act(x, i);
            CHECK.isTrue("acts", x.count(11) <= 40);
        }
        for (int left = 39; left >= 0; left--) {
            CHECK.same("undo", x.undo(), left);
        }
        CHECK.same("no more", x.undo(), -1);
        // Each state on the way is told apart by an object that was brought just so far.
        for (int upTo = 1; upTo < 60; upTo += 7) {
            WaxReign near = Check.kingdom(REALM);
            WaxReign far = Check.kingdom(REALM);
            near.knives(6);
            far.knives(6);
            for (int i = 0; i < upTo; i++) {
                act(near, i);
                act(far, i);
            }
            int kept = 0;
            for (int i = upTo; i < upTo + 30; i++) {
                int before = far.count(11);
                act(far, i);
                kept += far.count(11) - before;
            }
            if (far.count(11) < 40) {
                for (int i = 0; i < kept; i++) {
                    far.undo();
                }
                same("undone to " + upTo, far, near);
                CHECK.same("acts left", far.count(11), near.count(11));
            }
        }
    }

    private static void undoesManyMonths() {
        WaxReign near = Check.kingdom("sh10b1;th40w9;r;r");
        WaxReign far = Check.kingdom("sh10b1;th40w9;r;r");
        near.years(60, 8);
        near.years(33, 9);
        far.years(60, 8);
        far.years(33, 9);
        far.years(40, 10);
        for (int i = 0; i < 40; i++) {
            far.undo();
        }
        same("forty months undone", far, near);
        CHECK.same("none is left", far.undo(), -1);
        far.years(30, 4);
        near.years(30, 4);
        same("other months", far, near);
        far.years(40, 4);
        for (int i = 0; i < 40; i++) {
            far.undo();
        }
        same("forty more undone", far, near);
    }

    private static void logs() {
        WaxReign x = Check.kingdom("sh10;td5h10s0w1;td4h13s1w1;r;r");
        CHECK.same("empty", x.log(0, 0), -1);
        for (int i = 0; i < 4; i++) {
            x.month();
        }
        int[][] due = {{16, 2, 9}, {14, 1, 5}, {12, 0, 0}, {10, 0, 0}};
        for (int i = 0; i < 4; i++) {
            for (int what = 0; what < 3; what++) {
                CHECK.same("log(" + i + ", " + what + ")", x.log(i, what), due[i][what]);
            }
        }
        int[][] none = {{4, 0}, {-1, 0}, {0, 3}, {0, -1}, {Integer.MAX_VALUE, 0}, {Integer.MIN_VALUE, 0}};
        for (int[] call : none) {
            CHECK.same("no such log", x.log(call[0], call[1]), -1);
        }
        for (int i = 4; i < 70; i++) {
            x.month();
        }
        CHECK.same("sixty", x.count(10), 60);
        CHECK.same("the oldest is month 10", x.log(59, 0), 14);
        CHECK.same("no older one", x.log(60, 0), -1);
        x.undo();
        CHECK.same("sixty still", x.count(10), 60);
        CHECK.same("an older one is back", x.log(59, 0), 16);
    }

    private static void runs() {
        WaxReign x = Check.kingdom("sw4h14;to0h14d5s2w1;td2w0h40;rk2;rk1;rk2");
        Check.put(x, 2, "p01;m;m;s11;o1;o1;m");
        Check.put(x, 2, "m;s13;s01");
        Check.put(x, 2, "m;m;m;m;s19");
        Check.put(x, 2, "p00");
        for (int again = 0; again < 2; again++) {
            CHECK.same("behind the first o1", x.run(0, 0), 5);
            CHECK.same("pried open is no shame", x.run(0, 1), 0);
            CHECK.same("all can be", x.run(1, 0), -1);
            CHECK.same("no shame", x.run(1, 1), 0);
            CHECK.same("too little", x.run(2, 0), -1);
            CHECK.same("shame", x.run(2, 1), 5);
            CHECK.same("its own", x.run(3, 0), 0);
            CHECK.same("apart", x.count(6) + x.count(11) + x.count(7) + x.count(10), 0);
        }
        CHECK.same("what", x.run(0, 2), -1000000);
        CHECK.same("what", x.run(0, -1), -1000000);
        CHECK.same("reign", x.run(4, 0), -1000000);
        CHECK.same("reign", x.run(-1, 0), -1000000);
        x.perform(2);
        CHECK.same("shame that was does not come of it", x.run(1, 1), 0);
        WaxReign y = new WaxReign();
        Check.put(y, 2, "m");
        CHECK.same("no kingdom", y.run(0, 0), -1000000);
        CHECK.same("no kingdom", y.perform(0), -1);
        String[] steps = {"s30", "s19", "s00", "p30", "p03", "p00", "p20", "o3", "o2", "o9"};
        for (String step : steps) {
            WaxReign one = Check.kingdom("sw99;t;t;tw0;r;rk9;rk0");
            Check.put(one, 2, "m;" + step + ";m");
            CHECK.same(step + " can't be", one.run(0, 0), 1);
            CHECK.same(step + " is not done", one.perform(0), 1);
            CHECK.same("one act", one.count(11), 1);
        }
    }

    private static void runAtTheEndOfTime() {
        WaxReign x = atTheEnd(2);
        Check.put(x, 2, "m;m;m;m");
        CHECK.same("two months are left", x.run(0, 0), 2);
        CHECK.same("two are done", x.perform(0), 2);
        CHECK.same("none", x.run(0, 0), 0);
        CHECK.same("none", x.perform(0), 0);
    }

    private static void performs() {
        WaxReign x = Check.kingdom("sw4h14;to0h14d5s2w1;td2w0h40;rk2;rk1;rk2");
        Check.put(x, 2, "s01;p02;m;s19;m");
        CHECK.same("three", x.perform(0), 3);
        CHECK.same("three acts", x.count(11), 3);
        CHECK.same("a month", x.count(6), 1);
        CHECK.same("logged", x.log(0, 0), 14);
        CHECK.same("a scar", x.ring(2, 1), 1);
        CHECK.same("undone one by one", x.undo(), 2);
        CHECK.same("time", x.count(6), 0);
        CHECK.same("the scar is there", x.ring(2, 1), 1);
        x.undo();
        CHECK.same("no scar", x.ring(2, 1), 0);
        CHECK.same("wax on it", x.thing(0, 4), 2);
        CHECK.same("no such", x.perform(1), -1);
        CHECK.same("no such", x.perform(-1), -1);
    }

    private static void images() {
        WaxReign x = Check.kingdom(REALM);
        WaxReign y = Check.kingdom(REALM);
        CHECK.same("none yet", x.back(), -1);
        for (int i = 0; i < 33; i++) {
            act(x, i);
            act(y, i);
        }
        CHECK.same("image", x.image(), y.count(6));
        CHECK.same("acts stay", x.count(11), y.count(11));
        for (int round = 0; round < 2; round++) {
            x.knives(5 + round);
            x.noted(0, 0, true);
            x.years(60, 5);
            x.years(50, 6);
            for (int i = 0; i < 27; i++) {
                act(x, i);
            }
            CHECK.same("back", x.back(), y.count(6));
            same("back", x, y);
            CHECK.same("nothing to undo", x.undo(), -1);
            CHECK.same("noted stays", x.count(9), round + 1);
            CHECK.same("knives stay", x.count(8), 5 + round);
        }
        x.month();
        int time = x.count(6);
        CHECK.same("another image", x.image(), time);
        x.month();
        CHECK.same("back to it", x.back(), time);
        Check.put(x, 0, REALM);
        CHECK.same("of another kingdom", x.back(), -1);
    }

    private static void counts() {
        WaxReign x = Check.kingdom("sh40;td4;td5;t;r;r");
        x.law(Check.put(x, 1, "y:0"));
        Check.put(x, 1, "y:1");
        Check.put(x, 2, "m");
        x.knives(3);
        x.noted(1, 1, false);
        x.month();
        x.seal(0, 1);
        x.feed(0x61620063, 0, 0, 0, 0);
        int[] due = {3, 2, 2, 1, 3, 0, 1, 12, 3, 1, 1, 2};
        for (int what = 0; what < due.length; what++) {
            CHECK.same("count(" + what + ")", x.count(what), due[what]);
        }
        CHECK.same("count(12)", x.count(12), -1000000);
        CHECK.same("count(-1)", x.count(-1), -1000000);
    }
}
