import java.util.function.Consumer;
import java.util.function.ToLongFunction;

/** The boundary cases of MONTHS and ACTS, sentence by sentence (promises 6 to 8 and 10 to 16). */
public final class BoundsActsTest {
    private static final int NONE = Sentences.NONE;
    private static final int LEAST = Integer.MIN_VALUE;
    private static final int MOST = Integer.MAX_VALUE;
    private static final Sentences DOC = new Sentences("BoundsActsTest");

    public static void main(String[] args) {
        rule();
        thing();
        ring();
        knives();
        melting();
        melted();
        shame();
        bees();
        month();
        seal();
        sealRefused();
        open();
        forged();
        scarred();
        pryRefused();
        carry();
        heat();
        eachOfSeven();
        monthOfEachOfSeven();
        DOC.ends();
    }

    /** Three THINGS, the last one OPEN, three RINGS; an IMAGE, ACTS that can be UNDONE, and something NOTED. */
    private static WaxReign realm() {
        WaxReign x = Check.kingdom("sw9h12b1;to1h14d5s2w2;th9d4s1w1;th30d2w0;rk4;rk3;rk1");
        Check.put(x, 2, "m;s01");
        x.knives(5);
        x.heat(3);
        x.month();
        x.image();
        x.carry(0, 4);
        x.pry(0, 0);
        x.noted(2, 0, true);
        return x;
    }

    private static void refuses(String call, ToLongFunction<WaxReign> asks) {
        DOC.refuses(call, BoundsActsTest::realm, asks, NONE);
    }

    /** As realm(), but all that can be NONE for want of a KINGDOM is. */
    private static void refusesWithoutKingdom(String call, ToLongFunction<WaxReign> asks) {
        DOC.refuses(call + " without a kingdom", () -> {
            WaxReign x = new WaxReign();
            Check.put(x, 1, "y:1");
            Check.put(x, 2, "m");
            x.law(0);
            x.knives(2);
            Check.tells(x, "t;");
            return x;
        }, asks, NONE);
    }

    private static void rule() {
        DOC.says("6: 0 WAX now, 1 HEAT now, 2 BEES", () -> {
            WaxReign x = Check.kingdom("sw9h12b7;t;r");
            x.seal(0, 2);
            x.heat(5);
            DOC.due("wax", x.rule(0), 7);
            DOC.due("heat", x.rule(1), 5);
            DOC.due("bees", x.rule(2), 7);
        });
        DOC.says("6: NONE: no KINGDOM", () -> {
            for (int what = 0; what <= 2; what++) {
                int asked = what;
                refusesWithoutKingdom("rule(" + what + ")", x -> x.rule(asked));
            }
        });
        DOC.says("6: NONE: no such what", () -> {
            for (int what : new int[] {-1, 3, LEAST, MOST}) {
                refuses("rule(" + what + ")", x -> x.rule(what));
            }
        });
    }

    private static void thing() {
        DOC.says("7: the first and the last of seven, the first what and the last one", () -> {
            WaxReign x = Check.kingdom("to1h2d3s4w5;t;t;t;t;t;to4h9d8s7w6;r;r;r;r;r");
            int[] first = {1, 2, 3, 4, 5, 2, 8};
            int[] last = {4, 9, 8, 7, 6, 16, 14};
            for (int what = 0; what <= 6; what++) {
                DOC.due("thing(0, " + what + ")", Sentences.thing(x, 0, what), first[what]);
                DOC.due("thing(6, " + what + ")", Sentences.thing(x, 6, what), last[what]);
            }
        });
        DOC.says("7: NoSuchElementException: no such THING", () -> {
            for (int thing : new int[] {-1, 3, 7, LEAST, MOST}) {
                noSuch("thing(" + thing + ", 0)", x -> Sentences.thing(x, thing, 0));
            }
        });
        DOC.says("7: NoSuchElementException: an eighth of seven", () -> {
            WaxReign x = Check.kingdom("t;t;t;t;t;t;t;r");
            DOC.due("thing(7, 0)", Sentences.thing(x, 7, 0), Sentences.NO_SUCH_ELEMENT);
        });
        DOC.says("7: NoSuchElementException: no such what", () -> {
            for (int what : new int[] {-1, 7, LEAST, MOST}) {
                noSuch("thing(0, " + what + ")", x -> Sentences.thing(x, 0, what));
            }
        });
        DOC.says("7: NoSuchElementException: no KINGDOM", () -> {
            for (int what = 0; what <= 6; what++) {
                int asked = what;
                DOC.refuses("thing(0, " + what + ")", WaxReign::new, x -> Sentences.thing(x, 0, asked), Sentences.NO_SUCH_ELEMENT);
            }
        });
    }

    private static void noSuch(String call, ToLongFunction<WaxReign> asks) {
        DOC.refuses(call, BoundsActsTest::realm, asks, Sentences.NO_SUCH_ELEMENT);
    }

    private static void ring() {
        DOC.says("8: the first and the last of five", () -> {
            WaxReign x = Check.kingdom("t;rk1;r;r;r;rk9");
            DOC.due("ring(0, 0)", x.ring(0, 0), 1);
            DOC.due("ring(0, 1)", x.ring(0, 1), 0);
            DOC.due("ring(4, 0)", x.ring(4, 0), 9);
            DOC.due("ring(4, 1)", x.ring(4, 1), 0);
            DOC.due("ring(5, 0)", x.ring(5, 0), NONE);
        });
        DOC.says("8: NONE: no such RING", () -> {
            for (int ring : new int[] {-1, 3, 5, LEAST, MOST}) {
                refuses("ring(" + ring + ", 0)", x -> x.ring(ring, 0));
            }
            refusesWithoutKingdom("ring(0, 0)", x -> x.ring(0, 0));
        });
        DOC.says("8: NONE: no such what", () -> {
            for (int what : new int[] {-1, 2, LEAST, MOST}) {
                refuses("ring(0, " + what + ")", x -> x.ring(0, what));
            }
        });
    }

    private static void knives() {
        DOC.says("10: KNIVES 0 .. 9, 0 at first", () -> {
            WaxReign x = new WaxReign();
            DOC.due("at first", x.count(8), 0);
            DOC.due("knives(9)", x.knives(9), true);
            DOC.due("then", x.count(8), 9);
            DOC.due("knives(0)", x.knives(0), true);
            DOC.due("then", x.count(8), 0);
        });
        DOC.says("10: False: out of bounds", () -> {
            for (int v : new int[] {-1, 10, LEAST, MOST}) {
                DOC.refuses("knives(" + v + ")", BoundsActsTest::realm, x -> x.knives(v) ? 1 : 0, 0);
            }
        });
        DOC.says("10: False: it is so", () -> {
            DOC.refuses("knives(5)", BoundsActsTest::realm, x -> x.knives(5) ? 1 : 0, 0);
            DOC.refuses("knives(0)", WaxReign::new, x -> x.knives(0) ? 1 : 0, 0);
        });
        DOC.says("10: KNIVES are no ACT", () -> {
            WaxReign x = realm();
            int acts = x.count(11);
            x.knives(6);
            DOC.due("acts", x.count(11), acts);
            x.undo();
            DOC.due("they stay", x.count(8), 6);
        });
    }

    private static void melting() {
        DOC.says("it MELTS if WARMTH is more than it HOLDS, not if it is as much", () -> {
            DOC.due("10 holds 10", Check.kingdom("sh10;th8s0w1;r").month(), 0);
            DOC.due("10 does not hold 11", Check.kingdom("sh11;th8s0w1;r").month(), 1);
            DOC.due("0 holds 0", Check.kingdom("sh0;th0s2w1;r").month(), 0);
            DOC.due("0 does not hold 1", Check.kingdom("sh1;th0s2w1;r").month(), 1);
        });
        DOC.says("WARMTH in this MONTH is that of the one that goes by", () -> {
            WaxReign x = Check.kingdom("sh10;th8s0w1;r");
            DOC.due("month 0 is of 10", x.month(), 0);
            DOC.due("month 1 is of 12", x.month(), 1);
        });
        DOC.says("each that is not OPEN: an OPEN one does not MELT", () -> {
            WaxReign x = Check.kingdom("sh40;tw0d9;r;r");
            DOC.due("month", x.month(), 0);
            DOC.due("which", x.log(0, 1), 0);
            DOC.due("who knows", x.thing(0, 5), 1);
            DOC.due("shame", x.count(7), 0);
        });
        DOC.says("twice how far it is from MONTH 0 (or 12; the nearer one)", () -> {
            WaxReign x = Check.kingdom("sh3;tw0;r");
            int[] due = {3, 5, 7, 9, 11, 13, 15, 13, 11, 9, 7, 5, 3, 5};
            for (int time = 0; time < due.length; time++) {
                DOC.due("at " + time, x.warmth(0), due[time]);
                x.month();
                DOC.due("logged", x.log(0, 0), due[time]);
            }
        });
        DOC.says("WARMTH by HEAT of 0 and of 40", () -> {
            WaxReign cold = Check.kingdom("sh0;t;r");
            WaxReign hot = Check.kingdom("sh40;t;r");
            DOC.due("the least", cold.warmth(0), 0);
            DOC.due("the most", hot.warmth(6), 52);
        });
    }

    private static void melted() {
        DOC.says("what MELTED is OPEN, its WAX is gone", () -> {
            WaxReign x = Check.kingdom("sh40w5b0;th0w9;r");
            x.month();
            DOC.due("wax on it", x.thing(0, 4), 0);
            DOC.due("wax", x.rule(0), 5);
            DOC.due("sealed", x.all(5), 0);
        });
        DOC.says("all RINGS KNOW it then", () -> {
            WaxReign x = Check.kingdom("sh40;to2;r;r;r;r;r");
            DOC.due("its own ring at first", x.thing(0, 5), 4);
            x.month();
            DOC.due("all five", x.thing(0, 5), 31);
        });
        DOC.says("all seven can MELT at once", () -> {
            WaxReign x = Check.kingdom("sh40;td9;td9;td9;td9;td9;td9;td9;r;r");
            DOC.due("month", x.month(), 7);
            DOC.due("which", x.log(0, 1), 127);
            DOC.due("shame", x.count(7), 63);
        });
        DOC.says("what is sealed again can MELT again", () -> {
            WaxReign x = Check.kingdom("sh40;td9;r;r");
            x.month();
            DOC.due("open", x.month(), 0);
            x.seal(0, 1);
            DOC.due("sealed", x.month(), 1);
        });
    }

    private static void shame() {
        DOC.says("SHAME is 0 at first", () -> DOC.due("shame", Check.kingdom("t;r").count(7), 0));
        DOC.says("SHAME is more by how DEEP it is", () -> {
            for (int deep : new int[] {0, 1, 9}) {
                WaxReign x = Check.kingdom("sh40;td" + deep + ";r;r");
                x.month();
                DOC.due("of " + deep, x.count(7), deep);
                DOC.due("logged", x.log(0, 2), deep);
            }
        });
        DOC.says("SHAME only if one that KNEW not KNOWS now", () -> {
            WaxReign all = Check.kingdom("sh40;td9;rk9;rk9;rk9");
            all.pry(0, 1);
            all.pry(0, 2);
            all.month();
            DOC.due("all three knew", all.count(7), 0);
            WaxReign two = Check.kingdom("sh40;td9;rk9;rk9;rk9");
            two.pry(0, 1);
            two.month();
            DOC.due("one of three knew not", two.count(7), 9);
        });
        DOC.says("no SHAME where there is one RING alone", () -> {
            WaxReign x = Check.kingdom("sh40;td9;r");
            DOC.due("it melts", x.month(), 1);
            DOC.due("shame", x.count(7), 0);
        });
        DOC.says("no SHAME by the same THING again", () -> {
            WaxReign x = Check.kingdom("sh40;td9;r;r");
            x.month();
            x.seal(0, 1);
            x.month();
            DOC.due("shame", x.count(7), 9);
        });
    }

    /** WAX grows by nine a MONTH, and the one THING does not MELT. */
    private static WaxReign rich(int wax, int months) {
        WaxReign x = Check.kingdom("sw" + wax + "b9;th40w9s0;r");
        for (int left = months; left > 0; left -= 60) {
            x.years(Math.min(60, left), 1);
        }
        return x;
    }

    private static void bees() {
        DOC.says("WAX is more by BEES: 0 and 9", () -> {
            WaxReign none = Check.kingdom("sw5b0;tw0;r");
            none.month();
            DOC.due("none", none.rule(0), 5);
            WaxReign nine = Check.kingdom("sw5b9;tw0;r");
            nine.month();
            DOC.due("nine", nine.rule(0), 14);
        });
        DOC.says("BEES: WAX 999 at most", () -> {
            WaxReign just = rich(99, 99);
            DOC.due("ahead of it", just.rule(0), 990);
            just.month();
            DOC.due("990 and 9", just.rule(0), 999);
            just.month();
            DOC.due("999 and 9", just.rule(0), 999);
            WaxReign above = rich(98, 100);
            DOC.due("ahead of it", above.rule(0), 998);
            above.month();
            DOC.due("998 and 9", above.rule(0), 999);
        });
        DOC.says("BEES come behind the melting, also where all is OPEN", () -> {
            WaxReign x = Check.kingdom("sw0h40b3;t;r");
            x.month();
            x.month();
            DOC.due("wax", x.rule(0), 6);
        });
    }

    private static void month() {
        DOC.says("11: how many MELTED", () -> {
            DOC.due("none", Check.kingdom("sh0;t;t;r").month(), 0);
            DOC.due("one", Check.kingdom("sh20;t;th40;r").month(), 1);
            DOC.due("two", Check.kingdom("sh20;t;t;r").month(), 2);
        });
        DOC.says("11: NONE: no KINGDOM", () -> refusesWithoutKingdom("month", WaxReign::month));
    }

    private static void seal() {
        DOC.says("12: n of 1 .. 9", () -> {
            for (int n : new int[] {1, 9}) {
                WaxReign x = Check.kingdom("sw20;tw0;r");
                DOC.due("seal(0, " + n + ")", x.seal(0, n), n);
                DOC.due("wax on it", x.thing(0, 4), n);
            }
        });
        DOC.says("12: 9 on it at most", () -> {
            DOC.due("5 and 4", Check.kingdom("sw20;tw5;r").seal(0, 4), 9);
            DOC.due("8 and 1", Check.kingdom("sw20;tw8;r").seal(0, 1), 9);
        });
        DOC.says("12: WAX less by n, all of it at most", () -> {
            WaxReign x = Check.kingdom("sw9;tw0;tw0;r");
            x.seal(0, 4);
            DOC.due("wax", x.rule(0), 5);
            DOC.due("all that is left", x.seal(1, 5), 5);
            DOC.due("wax", x.rule(0), 0);
        });
        DOC.says("12: from 0 on it is sealed again", () -> {
            WaxReign x = Check.kingdom("sh40;tw0;r;r");
            x.seal(0, 1);
            DOC.due("sealed", x.all(5), 1);
            DOC.due("it can melt", x.month(), 1);
        });
    }

    private static void sealRefused() {
        DOC.says("12: NONE: no such THING", () -> {
            for (int thing : new int[] {-1, 3, 7, LEAST, MOST}) {
                refuses("seal(" + thing + ", 1)", x -> x.seal(thing, 1));
            }
            refusesWithoutKingdom("seal(0, 1)", x -> x.seal(0, 1));
        });
        DOC.says("12: NONE: out of bounds", () -> {
            for (int n : new int[] {0, -1, 10, LEAST, MOST}) {
                DOC.refuses("seal(0, " + n + ")", () -> Check.kingdom("sw99;tw0;r"), x -> x.seal(0, n), NONE);
            }
        });
        DOC.says("12: NONE: above nine", () -> {
            DOC.refuses("9 and 1", () -> Check.kingdom("sw99;tw9;r"), x -> x.seal(0, 1), NONE);
            DOC.refuses("5 and 5", () -> Check.kingdom("sw99;tw5;r"), x -> x.seal(0, 5), NONE);
            DOC.refuses("1 and 9", () -> Check.kingdom("sw99;tw1;r"), x -> x.seal(0, 9), NONE);
        });
        DOC.says("12: NONE: too little", () -> {
            DOC.refuses("1 of 0", () -> Check.kingdom("sw0;tw0;r"), x -> x.seal(0, 1), NONE);
            DOC.refuses("9 of 8", () -> Check.kingdom("sw8;tw0;r"), x -> x.seal(0, 9), NONE);
        });
    }

    private static void open() {
        DOC.says("13: WAX on it comes back: 1 and 9", () -> {
            for (int wax : new int[] {1, 9}) {
                WaxReign x = Check.kingdom("sw5;tw" + wax + ";r");
                DOC.due("open", x.open(0), 5 + wax);
                DOC.due("wax", x.rule(0), 5 + wax);
                DOC.due("wax on it", x.thing(0, 4), 0);
            }
        });
        DOC.says("13: WAX 999 at most", () -> {
            DOC.due("990 and 9", rich(99, 99).open(0), 999);
            WaxReign x = rich(98, 100);
            DOC.due("998 and 9", x.open(0), 999);
            DOC.due("wax", x.rule(0), 999);
            DOC.due("wax on it", x.thing(0, 4), 0);
        });
        DOC.says("13: none KNOWS more, none has SHAME or a SCAR", () -> {
            WaxReign x = Check.kingdom("to1d9;rk0;rk0");
            x.open(0);
            DOC.due("who knows", x.thing(0, 5), 2);
            DOC.due("shame", x.count(7), 0);
            DOC.due("scars", x.ring(1, 1), 0);
        });
        DOC.says("13: NONE: no such THING", () -> {
            for (int thing : new int[] {-1, 3, LEAST, MOST}) {
                refuses("open(" + thing + ")", x -> x.open(thing));
            }
            refusesWithoutKingdom("open(0)", x -> x.open(0));
        });
        DOC.says("13: NONE: it is OPEN", () -> {
            refuses("open(2)", x -> x.open(2));
            DOC.refuses("again", () -> after(x -> x.open(0)), x -> x.open(0), NONE);
            DOC.refuses("pried open", () -> after(x -> x.pry(0, 2)), x -> x.open(0), NONE);
            DOC.refuses("melted", () -> after(x -> {
                x.heat(40);
                x.month();
            }), x -> x.open(0), NONE);
        });
    }

    private static WaxReign after(Consumer<WaxReign> acts) {
        WaxReign x = realm();
        acts.accept(x);
        return x;
    }

    private static WaxReign prying(int skill, int wax) {
        return Check.kingdom("sw20;to1w" + wax + ";rk" + skill + ";r");
    }

    private static void forged() {
        DOC.says("14: FORGED if SKILL is twice the WAX on it or more", () -> {
            int[][] skillAndWax = {{2, 1}, {3, 1}, {8, 4}, {9, 4}, {9, 1}};
            for (int[] of : skillAndWax) {
                DOC.due("skill " + of[0] + " wax " + of[1], prying(of[0], of[1]).pry(0, 0), 1);
            }
        });
        DOC.says("14: a SCAR if SKILL is less than twice the WAX on it", () -> {
            int[][] skillAndWax = {{0, 1}, {1, 1}, {7, 4}, {9, 5}, {9, 9}};
            for (int[] of : skillAndWax) {
                DOC.due("skill " + of[0] + " wax " + of[1], prying(of[0], of[1]).pry(0, 0), 0);
            }
        });
        DOC.says("14: FORGED it is left as it was", () -> {
            WaxReign x = prying(4, 2);
            x.pry(0, 0);
            DOC.due("wax on it", x.thing(0, 4), 2);
            DOC.due("skill", x.ring(0, 0), 4);
            DOC.due("scars", x.ring(0, 1), 0);
            DOC.due("wax", x.rule(0), 20);
            DOC.due("forged", x.all(8), 1);
            DOC.due("again", x.pry(0, 0), 1);
            DOC.due("forged", x.all(8), 2);
        });
        DOC.says("14: it KNOWS it then, FORGED or not", () -> {
            WaxReign forged = prying(4, 2);
            forged.pry(0, 0);
            DOC.due("forged", forged.thing(0, 5), 3);
            WaxReign scarred = prying(3, 2);
            scarred.pry(0, 0);
            DOC.due("scarred", scarred.thing(0, 5), 3);
            WaxReign last = Check.kingdom("tw1;r;r;r;r;rk9");
            last.pry(0, 4);
            DOC.due("the last of five", last.thing(0, 5), 17);
        });
    }

    private static void scarred() {
        DOC.says("14: not FORGED it is OPEN, its WAX is gone", () -> {
            WaxReign x = prying(3, 2);
            x.pry(0, 0);
            DOC.due("wax on it", x.thing(0, 4), 0);
            DOC.due("wax", x.rule(0), 20);
            DOC.due("forged", x.all(8), 0);
            DOC.due("shame", x.count(7), 0);
        });
        DOC.says("14: SCARS 9 at most", () -> {
            WaxReign x = prying(0, 1);
            for (int i = 1; i <= 11; i++) {
                DOC.due("pry", x.pry(0, 0), 0);
                DOC.due("scars", x.ring(0, 1), Math.min(9, i));
                x.seal(0, 1);
            }
        });
        DOC.says("14: SKILL 1 less, 0 at least", () -> {
            WaxReign x = prying(2, 9);
            int[] due = {1, 0, 0};
            for (int skill : due) {
                x.pry(0, 0);
                DOC.due("skill", x.ring(0, 0), skill);
                x.seal(0, 2);
            }
        });
        DOC.says("14: the other RINGS have no SCAR and keep their SKILL", () -> {
            WaxReign x = Check.kingdom("to1w9;rk5;rk6;rk7");
            x.pry(0, 2);
            DOC.due("skill", x.ring(0, 0) * 100 + x.ring(1, 0) * 10 + x.ring(2, 0), 566);
            DOC.due("scars", x.ring(0, 1) * 100 + x.ring(1, 1) * 10 + x.ring(2, 1), 1);
        });
    }

    private static void pryRefused() {
        DOC.says("14: NONE: no such THING", () -> {
            for (int thing : new int[] {-1, 3, LEAST, MOST}) {
                refuses("pry(" + thing + ", 2)", x -> x.pry(thing, 2));
            }
            refusesWithoutKingdom("pry(0, 0)", x -> x.pry(0, 0));
        });
        DOC.says("14: NONE: no such RING", () -> {
            for (int ring : new int[] {-1, 3, 5, LEAST, MOST}) {
                refuses("pry(0, " + ring + ")", x -> x.pry(0, ring));
            }
        });
        DOC.says("14: NONE: its own", () -> {
            refuses("pry(0, 1)", x -> x.pry(0, 1));
            refuses("pry(1, 0)", x -> x.pry(1, 0));
        });
        DOC.says("14: NONE: it is OPEN", () -> {
            refuses("pry(2, 1)", x -> x.pry(2, 1));
            DOC.refuses("opened", () -> after(x -> x.open(0)), x -> x.pry(0, 2), NONE);
            DOC.refuses("pried open", () -> after(x -> x.pry(0, 2)), x -> x.pry(0, 0), NONE);
        });
    }

    private static void carry() {
        DOC.says("15: to SUN 0 .. 9; SUN that was", () -> {
            WaxReign x = Check.kingdom("ts2;r");
            DOC.due("carry(0, 9)", x.carry(0, 9), 2);
            DOC.due("sun", x.thing(0, 3), 9);
            DOC.due("carry(0, 0)", x.carry(0, 0), 9);
            DOC.due("sun", x.thing(0, 3), 0);
            DOC.due("carry(0, 1)", x.carry(0, 1), 0);
        });
        DOC.says("15: an OPEN one can be CARRIED, too", () -> DOC.due("carry", Check.kingdom("tw0s2;r").carry(0, 3), 2));
        DOC.says("15: NONE: no such THING", () -> {
            for (int thing : new int[] {-1, 3, LEAST, MOST}) {
                refuses("carry(" + thing + ", 8)", x -> x.carry(thing, 8));
            }
            refusesWithoutKingdom("carry(0, 1)", x -> x.carry(0, 1));
        });
        DOC.says("15: NONE: out of bounds", () -> {
            for (int sun : new int[] {-1, 10, LEAST, MOST}) {
                refuses("carry(0, " + sun + ")", x -> x.carry(0, sun));
            }
        });
        DOC.says("15: NONE: it is so", () -> {
            refuses("carry(0, 4)", x -> x.carry(0, 4));
            refuses("carry(1, 1)", x -> x.carry(1, 1));
        });
    }

    private static void heat() {
        DOC.says("16: HEAT 0 .. 40; what it was", () -> {
            WaxReign x = Check.kingdom("sh7;t;r");
            DOC.due("heat(40)", x.heat(40), 7);
            DOC.due("heat", x.rule(1), 40);
            DOC.due("heat(0)", x.heat(0), 40);
            DOC.due("heat", x.rule(1), 0);
            DOC.due("heat(1)", x.heat(1), 0);
        });
        DOC.says("16: NONE: no KINGDOM", () -> refusesWithoutKingdom("heat(1)", x -> x.heat(1)));
        DOC.says("16: NONE: out of bounds", () -> {
            for (int v : new int[] {-1, 41, LEAST, MOST}) {
                refuses("heat(" + v + ")", x -> x.heat(v));
            }
        });
        DOC.says("16: NONE: it is so", () -> refuses("heat(3)", x -> x.heat(3)));
    }

    /** Of the i-th of seven: SUN i + 1, WAX i + 1, DEEP i + 2; all are of the last of five RINGS. */
    private static WaxReign seven() {
        StringBuilder text = new StringBuilder("sw40h0");
        for (int i = 1; i <= 7; i++) {
            text.append(";to4s" + i + "w" + i + "d" + (i + 1));
        }
        return Check.kingdom(text + ";rk9;rk0;r;r;r");
    }

    /** SUN, WAX and who KNOWS of the one are as told here, those of the other six as they were. */
    private static void changesOne(WaxReign x, int one, int sun, int wax, int knows) {
        for (int thing = 0; thing < 7; thing++) {
            DOC.due("sun of " + thing, x.thing(thing, 3), thing == one ? sun : thing + 1);
            DOC.due("wax of " + thing, x.thing(thing, 4), thing == one ? wax : thing + 1);
            DOC.due("who knows " + thing, x.thing(thing, 5), thing == one ? knows : 16);
        }
    }

    private static void eachOfSeven() {
        DOC.says("12: WAX is set on each of seven by itself", () -> {
            for (int thing = 0; thing < 7; thing++) {
                WaxReign x = seven();
                DOC.due("seal", x.seal(thing, 2), thing + 3);
                changesOne(x, thing, thing + 1, thing + 3, 16);
                DOC.due("wax", x.rule(0), 38);
                DOC.due("above nine", x.seal(thing, 7 - thing), NONE);
                DOC.due("nine", thing == 6 ? 9 : x.seal(thing, 6 - thing), 9);
            }
        });
        DOC.says("13: each of seven OPENS by itself", () -> {
            for (int thing = 0; thing < 7; thing++) {
                WaxReign x = seven();
                DOC.due("open", x.open(thing), 41 + thing);
                changesOne(x, thing, thing + 1, 0, 16);
            }
        });
        DOC.says("14: each of seven is PRIED by itself", () -> {
            for (int thing = 0; thing < 7; thing++) {
                WaxReign x = seven();
                DOC.due("pry", x.pry(thing, 0), thing < 4 ? 1 : 0);
                changesOne(x, thing, thing + 1, thing < 4 ? thing + 1 : 0, 17);
                WaxReign y = seven();
                DOC.due("pry", y.pry(thing, 1), 0);
                changesOne(y, thing, thing + 1, 0, 18);
            }
        });
        DOC.says("15: each of seven is CARRIED by itself", () -> {
            for (int thing = 0; thing < 7; thing++) {
                WaxReign x = seven();
                DOC.due("it is so", x.carry(thing, thing + 1), NONE);
                DOC.due("carry", x.carry(thing, 9), thing + 1);
                changesOne(x, thing, 9, thing + 1, 16);
                DOC.due("carry", x.carry(thing, 0), 9);
                changesOne(x, thing, 0, thing + 1, 16);
            }
        });
    }

    private static void monthOfEachOfSeven() {
        DOC.says("11: each of seven MELTS by itself", () -> {
            for (int thing = 0; thing < 7; thing++) {
                WaxReign x = seven();
                x.law(Check.put(x, 1, "y:w=" + (thing + 1) + "?0;y:99"));
                x.heat(1);
                DOC.due("month", x.month(), 1);
                changesOne(x, thing, thing + 1, 0, 31);
                DOC.due("which", x.log(0, 1), 1 << thing);
                DOC.due("shame", x.count(7), thing + 2);
                x.seal(thing, thing + 1);
                DOC.due("again", x.month(), 1);
                DOC.due("no more shame", x.count(7), thing + 2);
            }
        });
    }
}
