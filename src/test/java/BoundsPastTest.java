import java.util.function.Consumer;
import java.util.function.Supplier;
import java.util.function.ToIntFunction;
import java.util.function.ToLongFunction;

/** The boundary cases of what was, sentence by sentence: UNDO, the LOG, RUN and DO, IMAGES, counts (18, 19, 21, 22, 41 to 43). */
public final class BoundsPastTest {
    private static final int NONE = Sentences.NONE;
    private static final int HIDDEN = Sentences.HIDDEN;
    private static final int LEAST = Integer.MIN_VALUE;
    private static final int MOST = Integer.MAX_VALUE;
    private static final Sentences DOC = new Sentences("BoundsPastTest");

    public static void main(String[] args) {
        undoCounts();
        undoForty();
        undoEachAct();
        noActs();
        log();
        logSixty();
        logUndone();
        runAnswers();
        runSteps();
        runRefused();
        perform();
        image();
        imageKeeps();
        imageKeepsNot();
        back();
        count();
        DOC.ends();
    }

    private static WaxReign realm() {
        WaxReign x = Check.kingdom("sw9h12b1;to1h14d5s2w2;th9d4s1w1;th30d2w0;rk4;rk3;rk1");
        Check.put(x, 2, "m;s01");
        Check.put(x, 2, "s02;p00;o0;o0");
        x.month();
        x.image();
        x.heat(3);
        x.noted(2, 0, true);
        return x;
    }

    private static Supplier<WaxReign> withoutKingdom() {
        return () -> {
            WaxReign x = new WaxReign();
            Check.put(x, 1, "y:1");
            Check.put(x, 2, "m");
            x.law(0);
            return x;
        };
    }

    /** HEAT 1, 2, .. as so many ACTS. */
    private static WaxReign heated(int acts) {
        WaxReign x = Check.kingdom("sh0;t;r");
        for (int i = 1; i <= acts; i++) {
            x.heat(i % 41);
        }
        return x;
    }

    private static void undoCounts() {
        DOC.says("18: how many still can be", () -> {
            WaxReign x = heated(3);
            DOC.due("acts", x.count(11), 3);
            DOC.due("undo", x.undo(), 2);
            DOC.due("heat", x.rule(1), 2);
            DOC.due("undo", x.undo(), 1);
            DOC.due("undo", x.undo(), 0);
            DOC.due("heat", x.rule(1), 0);
        });
        DOC.says("18: NONE: none", () -> {
            DOC.refuses("no kingdom", withoutKingdom(), WaxReign::undo, NONE);
            DOC.refuses("a new kingdom", () -> Check.kingdom("t;r"), WaxReign::undo, NONE);
            DOC.refuses("all undone", () -> {
                WaxReign x = heated(2);
                x.undo();
                x.undo();
                return x;
            }, WaxReign::undo, NONE);
            DOC.refuses("gone back", () -> {
                WaxReign x = realm();
                x.back();
                return x;
            }, WaxReign::undo, NONE);
        });
        DOC.says("18: ACTS may come behind UNDONE ones", () -> {
            WaxReign x = heated(3);
            x.undo();
            x.heat(30);
            DOC.due("undo", x.undo(), 2);
            DOC.due("heat", x.rule(1), 2);
            DOC.due("undo", x.undo(), 1);
            DOC.due("heat", x.rule(1), 1);
        });
    }

    private static void undoForty() {
        DOC.says("18: 40 ACTS can all be UNDONE", () -> undoneDownTo(40, 0));
        DOC.says("18: of 41 ACTS the first drops out", () -> undoneDownTo(41, 1));
        DOC.says("18: of 60 ACTS the first twenty drop out", () -> undoneDownTo(60, 20));
        DOC.says("18: of 121 ACTS the first 81 drop out", () -> undoneDownTo(121, 81));
        DOC.says("18: behind UNDONE ones there are 40 again at most", () -> {
            WaxReign x = heated(40);
            for (int i = 0; i < 5; i++) {
                x.undo();
            }
            DOC.due("acts", x.count(11), 35);
            for (int i = 0; i < 6; i++) {
                x.carry(0, i % 2);
            }
            DOC.due("acts", x.count(11), 40);
            for (int left = 39; left >= 0; left--) {
                DOC.due("undo", x.undo(), left);
            }
            DOC.due("no more", x.undo(), NONE);
            DOC.due("the first of all is not undone", x.rule(1), 1);
        });
    }

    private static void undoneDownTo(int acts, int first) {
        WaxReign x = heated(acts);
        int can = Math.min(40, acts);
        DOC.due("acts", x.count(11), can);
        for (int i = 1; i <= can; i++) {
            DOC.due("undo", x.undo(), can - i);
            DOC.due("heat", x.rule(1), (acts - i) % 41);
        }
        DOC.due("heat at last", x.rule(1), first % 41);
        DOC.due("no more", x.undo(), NONE);
        DOC.due("heat", x.rule(1), first % 41);
    }

    private static void undoEachAct() {
        undone("a MONTH", WaxReign::month);
        undone("a MONTH in which all MELTS", x -> x.month(), x -> x.heat(40));
        undone("WAX that is set", x -> x.seal(0, 2));
        undone("WAX that seals again", x -> x.seal(2, 2));
        undone("a RING that OPENS its THING", x -> x.open(0));
        undone("a RING that PRIES and is FORGED", x -> x.pry(0, 0));
        undone("a RING that PRIES and has a SCAR", x -> x.pry(0, 2));
        undone("a THING that is CARRIED", x -> x.carry(0, 9));
        undone("HEAT that is set", x -> x.heat(9));
        undone("a MONTH of YEARS", x -> x.years(1, 7));
    }

    private static void undone(String sentence, ToIntFunction<WaxReign> act) {
        undone(sentence, act, x -> x.heat(5));
    }

    private static void undone(String sentence, ToIntFunction<WaxReign> act, Consumer<WaxReign> ahead) {
        DOC.says("18: UNDONE: " + sentence, () -> {
            WaxReign x = realm();
            x.knives(9);
            ahead.accept(x);
            var state = State.of(x);
            DOC.due("it can be", act.applyAsInt(x) >= 0, true);
            DOC.due("one act more", x.count(11), 4);
            DOC.due("undo", x.undo(), 3);
            DOC.alike("it leaves", State.of(x), state);
        });
    }

    private static void noActs() {
        DOC.says("what is told, asked or kept is no ACT", () -> {
            WaxReign x = realm();
            int acts = x.count(11);
            x.knives(3);
            x.law(Check.put(x, 1, "y:40"));
            Check.put(x, 2, "m");
            x.noted(0, 0, true);
            x.image();
            x.run(0, 0);
            x.lasts(0);
            x.dealt(5, 0);
            x.pack(5, 0);
            DOC.due("acts", x.count(11), acts);
            x.undo();
            DOC.due("knives", x.count(8), 3);
            DOC.due("law", x.count(5), 0);
            DOC.due("reigns", x.count(3), 3);
            DOC.due("noted", x.count(9), 2);
        });
    }

    /** So many MONTHS, in the i-th of which (from 0 on) HEAT is i % 41. */
    private static WaxReign logged(int months) {
        WaxReign x = Check.kingdom("sh40;tw0;r");
        for (int i = 0; i < months; i++) {
            x.heat(i % 41);
            x.month();
        }
        return x;
    }

    private static int warmthOf(int i) {
        return i % 41 + 2 * Math.min(i % 12, 12 - i % 12);
    }

    private static void log() {
        DOC.says("19: the latest (i 0), the one ahead of it (1) ..", () -> {
            WaxReign x = Check.kingdom("sh10;td5h10s0w1;td4h13s1w1;r;r");
            for (int i = 0; i < 4; i++) {
                x.month();
            }
            int[][] due = {{16, 2, 9}, {14, 1, 5}, {12, 0, 0}, {10, 0, 0}};
            for (int i = 0; i < 4; i++) {
                for (int what = 0; what < 3; what++) {
                    DOC.due("log(" + i + ", " + what + ")", x.log(i, what), due[i][what]);
                }
            }
        });
        DOC.says("19: WARMTH is that of the MONTH, SHAME that of then", () -> {
            WaxReign x = Check.kingdom("sh20;td5;td7h40;r;r");
            x.month();
            x.heat(40);
            x.carry(1, 9);
            x.month();
            DOC.due("warmth", x.log(1, 0), 20);
            DOC.due("shame", x.log(1, 2), 5);
            DOC.due("warmth", x.log(0, 0), 42);
            DOC.due("shame", x.log(0, 2), 12);
        });
        DOC.says("19: NONE: an empty LOG", () -> {
            DOC.refuses("log(0, 0)", () -> Check.kingdom("t;r"), x -> x.log(0, 0), NONE);
            DOC.refuses("no kingdom", withoutKingdom(), x -> x.log(0, 0), NONE);
        });
        DOC.says("19: NONE: no such i", () -> {
            DOC.due("the first month", logged(3).log(2, 0), warmthOf(0));
            for (int i : new int[] {-1, 3, 60, LEAST, MOST}) {
                DOC.refuses("log(" + i + ", 0)", () -> logged(3), x -> x.log(i, 0), NONE);
            }
        });
        DOC.says("19: NONE: no such what", () -> {
            for (int what : new int[] {-1, 3, LEAST, MOST}) {
                DOC.refuses("log(0, " + what + ")", () -> logged(3), x -> x.log(0, what), NONE);
            }
        });
    }

    private static void logSixty() {
        DOC.says("19: the latest 60: 59 of 59", () -> logIs(59));
        DOC.says("19: the latest 60: 60 of 60", () -> logIs(60));
        DOC.says("19: the latest 60: of 61 the first drops out", () -> logIs(61));
        DOC.says("19: the latest 60: of 133 the first 73 drop out", () -> logIs(133));
    }

    private static void logIs(int months) {
        WaxReign x = logged(months);
        int many = Math.min(60, months);
        DOC.due("how long", x.count(10), many);
        for (int i = 0; i < many; i++) {
            DOC.due("log(" + i + ", 0)", x.log(i, 0), warmthOf(months - 1 - i));
        }
        DOC.due("no more", x.log(many, 0), NONE);
    }

    private static void logUndone() {
        DOC.says("UNDONE, LOG, too: it is shorter", () -> {
            WaxReign x = logged(2);
            x.undo();
            DOC.due("how long", x.count(10), 1);
            DOC.due("the latest", x.log(0, 0), warmthOf(0));
            DOC.due("no more", x.log(1, 0), NONE);
        });
        DOC.says("UNDONE, LOG, too: what dropped out of 60 is there again", () -> {
            WaxReign x = logged(61);
            DOC.due("the oldest", x.log(59, 0), warmthOf(1));
            x.undo();
            DOC.due("how long", x.count(10), 60);
            DOC.due("the oldest", x.log(59, 0), warmthOf(0));
            DOC.due("the latest", x.log(0, 0), warmthOf(59));
        });
        DOC.says("UNDONE, LOG, too: forty MONTHS", () -> {
            WaxReign x = logged(50);
            x.years(60, 3);
            for (int i = 0; i < 40; i++) {
                x.undo();
            }
            WaxReign y = logged(50);
            y.years(20, 3);
            DOC.due("how long", x.count(10), 60);
            for (int i = 0; i < 60; i++) {
                DOC.due("log(" + i + ", 0)", x.log(i, 0), y.log(i, 0));
            }
        });
        DOC.says("UNDONE MONTHS are written anew", () -> {
            WaxReign x = logged(3);
            x.undo();
            x.heat(33);
            x.month();
            DOC.due("the latest", x.log(0, 0), 37);
            DOC.due("the one ahead", x.log(1, 0), warmthOf(1));
        });
    }

    private static void runs(String kingdom, String reign, int behind, int shame) {
        WaxReign x = Check.kingdom(kingdom);
        Check.put(x, 2, reign);
        DOC.due("run of " + reign, x.run(0, 0), behind);
        DOC.due("shame of " + reign, x.run(0, 1), shame);
    }

    private static void runAnswers() {
        DOC.says("21: behind how many: 0", () -> runs("tw0;r", "o0;m", 0, 0));
        DOC.says("21: behind how many: 15", () -> runs("tw0;r", "m;m;m;m;m;m;m;m;m;m;m;m;m;m;m;o0", 15, 0));
        DOC.says("21: NONE: all can be", () -> {
            runs("tw1;r", "o0", NONE, 0);
            runs("tw0;r", "m;m;m;m;m;m;m;m;m;m;m;m;m;m;m;m", NONE, 0);
        });
        DOC.says("21: SHAME that comes of it, up to the STEP that can't be", () -> {
            runs("sh40;td9;td8;r;r", "m;m", NONE, 17);
            runs("sh40;td9;r;r", "o0;m", NONE, 0);
            runs("sh40;td9;r;r", "p00;m", 0, 0);
            runs("sh40;td9;r;r", "m;o0;m", 1, 9);
        });
        DOC.says("21: SHAME that was does not come of it", () -> {
            WaxReign x = Check.kingdom("sh40;td9;td5w0;r;r");
            Check.put(x, 2, "s11;m");
            x.month();
            DOC.due("shame", x.count(7), 9);
            DOC.due("of the run", x.run(0, 1), 5);
        });
        DOC.says("21: RUN is apart", () -> {
            for (int what = 0; what <= 1; what++) {
                int asked = what;
                DOC.refuses("run(1, " + what + ")", BoundsPastTest::realm, x -> x.run(1, asked), what == 0 ? 2 : 0);
                DOC.refuses("run(0, " + what + ")", BoundsPastTest::realm, x -> x.run(0, asked), what == 0 ? NONE : 0);
            }
        });
    }

    /** Each in a KINGDOM where the STEP ahead of it can be. */
    private static void runSteps() {
        DOC.says("a STEP can't be: s on what is not there", () -> {
            runs("sw99;t;r", "s01;s11", 1, 0);
            runs("sw99;t;t;t;t;t;t;t;r", "s61;s71", 1, 0);
            runs("sw99;t;r", "s01;s91", 1, 0);
        });
        DOC.says("a STEP can't be: s of no WAX", () -> runs("sw99;t;r", "s01;s00", 1, 0));
        DOC.says("a STEP can't be: s above nine", () -> {
            runs("sw99;tw0;r", "s09", NONE, 0);
            runs("sw99;tw1;r", "s08;s01", 1, 0);
            runs("sw99;tw1;r", "s09", 0, 0);
        });
        DOC.says("a STEP can't be: s of too much WAX", () -> {
            runs("sw3;tw0;tw0;r", "s02;s11", NONE, 0);
            runs("sw3;tw0;tw0;r", "s02;s12", 1, 0);
            runs("sw0b3;tw0;r", "m;s03", NONE, 0);
            runs("sw0b3;tw0;r", "m;s04", 1, 0);
        });
        DOC.says("a STEP can't be: p of what is not there", () -> {
            runs("t;rk9;rk9", "p01;p11", 1, 0);
            runs("t;rk9;rk9", "p01;p02", 1, 0);
            runs("t;rk9;r;r;r;rk9", "p04;p05", 1, 0);
            runs("t;rk9;rk9", "p01;p99", 1, 0);
        });
        DOC.says("a STEP can't be: p by its own RING", () -> runs("to1;rk9;rk9", "p00;p01", 1, 0));
        DOC.says("a STEP can't be: p of an OPEN one", () -> {
            runs("tw0;rk9;rk9", "p01", 0, 0);
            runs("tw9;rk9;rk9", "p01;p01", 1, 0);
            runs("tw1;rk9;rk9", "p01;p01", NONE, 0);
        });
        DOC.says("a STEP can't be: o of what is not there", () -> {
            runs("t;r", "o0;o1", 1, 0);
            runs("t;r", "o0;o9", 1, 0);
        });
        DOC.says("a STEP can't be: o of an OPEN one", () -> {
            runs("tw0;r", "o0", 0, 0);
            runs("tw1;r", "o0;o0", 1, 0);
            runs("tw1;r", "o0;s01;o0", NONE, 0);
        });
    }

    private static void runRefused() {
        DOC.says("21: HIDDEN: no such REIGN", () -> {
            for (int reign : new int[] {-1, 2, 4, LEAST, MOST}) {
                DOC.refuses("run(" + reign + ", 0)", BoundsPastTest::realm, x -> x.run(reign, 0), HIDDEN);
            }
        });
        DOC.says("21: HIDDEN: no such what", () -> {
            for (int what : new int[] {-1, 2, LEAST, MOST}) {
                DOC.refuses("run(0, " + what + ")", BoundsPastTest::realm, x -> x.run(0, what), HIDDEN);
            }
        });
        DOC.says("21: HIDDEN: no KINGDOM", () -> {
            DOC.refuses("run(0, 0)", withoutKingdom(), x -> x.run(0, 0), HIDDEN);
            DOC.refuses("run(0, 1)", withoutKingdom(), x -> x.run(0, 1), HIDDEN);
        });
    }

    private static void perform() {
        DOC.says("22: how many STEPS were done: 0, and nothing is changed", () -> {
            DOC.refuses("the first can't be", () -> {
                WaxReign x = realm();
                Check.put(x, 2, "o2;m");
                return x;
            }, x -> x.perform(2), 0);
        });
        DOC.says("22: how many STEPS were done: up to the first that can't be", () -> {
            WaxReign x = Check.kingdom("sw3;tw0;r");
            Check.put(x, 2, "s02;m;o0;o0;m");
            DOC.due("perform", x.perform(0), 3);
            DOC.due("acts", x.count(11), 3);
            DOC.due("time", x.count(6), 1);
            DOC.due("log", x.count(10), 1);
            DOC.due("open", x.thing(0, 4), 0);
            DOC.due("wax", x.rule(0), 5);
        });
        DOC.says("22: how many STEPS were done: all 16", () -> {
            WaxReign x = Check.kingdom("tw0;r");
            Check.put(x, 2, "m;m;m;m;m;m;m;m;m;m;m;m;m;m;m;m");
            DOC.due("perform", x.perform(0), 16);
            DOC.due("time", x.count(6), 16);
            DOC.due("acts", x.count(11), 16);
            for (int left = 15; left >= 0; left--) {
                DOC.due("undone one by one", x.undo(), left);
                DOC.due("time", x.count(6), left);
            }
        });
        DOC.says("22: its STEPS are as ACTS by hand", () -> {
            WaxReign x = realm();
            WaxReign y = realm();
            Check.put(x, 2, "s01;p02;m;s23;o2");
            DOC.due("perform", x.perform(2), 5);
            y.seal(0, 1);
            y.pry(0, 2);
            y.month();
            y.seal(2, 3);
            y.open(2);
            DOC.due("forged", x.all(8), y.all(8));
            DOC.due("scars", x.ring(2, 1), y.ring(2, 1));
            DOC.alike("undone", State.goneBack(x), State.goneBack(y));
        });
        DOC.says("22: NONE: no such REIGN", () -> {
            for (int reign : new int[] {-1, 2, 4, LEAST, MOST}) {
                DOC.refuses("perform(" + reign + ")", BoundsPastTest::realm, x -> x.perform(reign), NONE);
            }
        });
        DOC.says("22: NONE: no KINGDOM", () -> DOC.refuses("perform(0)", withoutKingdom(), x -> x.perform(0), NONE));
    }

    private static void image() {
        DOC.says("41: TIME", () -> {
            WaxReign x = Check.kingdom("t;r");
            DOC.due("image", x.image(), 0);
            x.years(7, 1);
            DOC.due("image", x.image(), 7);
        });
        DOC.says("41: NONE: no KINGDOM", () -> DOC.refuses("image", withoutKingdom(), WaxReign::image, NONE));
        DOC.says("41: instead of the one ahead", () -> {
            WaxReign x = Check.kingdom("t;r");
            x.image();
            x.month();
            x.image();
            x.month();
            DOC.due("back", x.back(), 1);
            DOC.due("and again", x.back(), 1);
        });
        DOC.says("41: it changes nothing, no ACT is lost by it", () -> {
            WaxReign x = realm();
            var state = State.of(x);
            x.image();
            DOC.alike("it leaves", State.of(x), state);
            DOC.due("undo", x.undo(), 1);
        });
    }

    private static void kept(String sentence, Consumer<WaxReign> changes, ToLongFunction<WaxReign> asks) {
        DOC.says("42: an IMAGE keeps " + sentence, () -> {
            WaxReign x = realm();
            long before = asks.applyAsLong(x);
            x.image();
            changes.accept(x);
            DOC.due("it is another", asks.applyAsLong(x) != before, true);
            x.back();
            DOC.due("it is so again", asks.applyAsLong(x), before);
        });
    }

    private static void imageKeeps() {
        Consumer<WaxReign> hotMonth = x -> {
            x.heat(40);
            x.month();
        };
        kept("WAX", x -> x.seal(0, 1), x -> x.rule(0));
        kept("HEAT", x -> x.heat(40), x -> x.rule(1));
        kept("SUN", x -> x.carry(2, 7), x -> x.thing(2, 3));
        kept("WAX on a THING", x -> x.seal(2, 7), x -> x.thing(2, 4));
        kept("who KNOWS", x -> x.pry(0, 2), x -> x.thing(0, 5));
        kept("SKILL", x -> x.pry(0, 2), x -> x.ring(2, 0));
        kept("SCARS", x -> x.pry(0, 2), x -> x.ring(2, 1));
        kept("SHAME", hotMonth, x -> x.count(7));
        kept("FORGED", x -> x.pry(0, 0), x -> x.all(8));
        kept("TIME", WaxReign::month, x -> x.count(6));
        kept("how long the LOG is", WaxReign::month, x -> x.count(10));
        kept("the latest of the LOG", hotMonth, x -> x.log(0, 0));
        DOC.says("42: an IMAGE keeps all 60 of the LOG", () -> {
            WaxReign x = logged(70);
            x.image();
            x.years(60, 1);
            x.years(60, 2);
            DOC.due("back", x.back(), 70);
            for (int i = 0; i < 60; i++) {
                DOC.due("log(" + i + ", 0)", x.log(i, 0), warmthOf(69 - i));
            }
            DOC.due("no more", x.log(60, 0), NONE);
        });
        DOC.says("42: an IMAGE of an empty LOG", () -> {
            WaxReign x = Check.kingdom("t;r");
            x.image();
            x.month();
            DOC.due("back", x.back(), 0);
            DOC.due("log", x.count(10), 0);
            DOC.due("log(0, 0)", x.log(0, 0), NONE);
        });
    }

    private static void imageKeepsNot() {
        DOC.says("42: BACK leaves LAWS, which holds, REIGNS, KNIVES, NOTED and the TAPE as they are", () -> {
            WaxReign x = realm();
            x.image();
            x.law(Check.put(x, 1, "y:40"));
            Check.put(x, 2, "m");
            x.knives(7);
            x.noted(0, 0, true);
            Check.tells(x, "abc");
            x.back();
            DOC.due("laws", x.count(2), 1);
            DOC.due("reigns", x.count(3), 3);
            DOC.due("tape", x.count(4), 3);
            DOC.due("the law that holds", x.count(5), 0);
            DOC.due("knives", x.count(8), 7);
            DOC.due("noted", x.count(9), 2);
        });
    }

    private static void back() {
        DOC.says("42: TIME, as often as one likes", () -> {
            WaxReign x = Check.kingdom("t;r");
            x.years(5, 1);
            x.image();
            for (int i = 1; i <= 3; i++) {
                x.years(i, 1);
                DOC.due("back", x.back(), 5);
                DOC.due("time", x.count(6), 5);
            }
        });
        DOC.says("42: no ACT can be UNDONE then", () -> {
            WaxReign x = realm();
            x.heat(9);
            x.back();
            DOC.due("acts", x.count(11), 0);
            DOC.due("undo", x.undo(), NONE);
            x.heat(9);
            DOC.due("later ones can", x.undo(), 0);
            DOC.due("but none ahead of them", x.undo(), NONE);
        });
        DOC.says("42: BACK is ahead, too, if ACTS were UNDONE to behind the IMAGE", () -> {
            WaxReign x = Check.kingdom("t;r");
            x.month();
            x.month();
            x.image();
            x.undo();
            x.undo();
            DOC.due("back", x.back(), 2);
            DOC.due("log", x.count(10), 2);
            DOC.due("warmth", x.log(0, 0), 12);
        });
        DOC.says("42: NONE: no IMAGE", () -> {
            DOC.refuses("no kingdom", withoutKingdom(), WaxReign::back, NONE);
            DOC.refuses("no image", () -> heated(3), WaxReign::back, NONE);
        });
        DOC.says("42: NONE: no IMAGE of this KINGDOM", () -> {
            DOC.refuses("of another one", () -> {
                WaxReign x = realm();
                Check.put(x, 0, "t;r");
                x.heat(2);
                return x;
            }, WaxReign::back, NONE);
        });
        DOC.says("42: a KINGDOM that was refused takes no IMAGE away", () -> {
            WaxReign x = realm();
            Check.put(x, 0, "t");
            DOC.due("back", x.back(), 1);
        });
    }

    private static void count() {
        DOC.says("43: each count", () -> {
            WaxReign x = Check.kingdom("sh40;td4;td5;t;r;r");
            x.law(Check.put(x, 1, "y:0"));
            Check.put(x, 1, "y:1");
            Check.put(x, 2, "m");
            x.knives(3);
            x.noted(1, 1, false);
            x.month();
            x.seal(0, 1);
            x.feed(0x61620063, 0, 0, 0, 0);
            int[] due = {3, 2, 2, 1, 3, 0, 1, 12, 3, 1, 1, 2};
            for (int what = 0; what < due.length; what++) {
                DOC.due("count(" + what + ")", x.count(what), due[what]);
            }
        });
        DOC.says("43: the most THINGS and RINGS", () -> {
            WaxReign x = Check.kingdom("t;t;t;t;t;t;t;r;r;r;r;r");
            DOC.due("things", x.count(0), 7);
            DOC.due("rings", x.count(1), 5);
        });
        DOC.says("43: HIDDEN for others", () -> {
            for (int what : new int[] {-1, 12, LEAST, MOST}) {
                DOC.refuses("count(" + what + ")", BoundsPastTest::realm, x -> x.count(what), HIDDEN);
                DOC.refuses("count(" + what + ") of a new one", WaxReign::new, x -> x.count(what), HIDDEN);
            }
        });
    }
}
