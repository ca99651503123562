import java.util.function.Supplier;
import java.util.function.ToIntFunction;

/** The boundary cases of TEXTS, sentence by sentence: the TAPE, KINGDOMS, REIGNS (promises 1 to 5 and 20). */
public final class BoundsTextTest {
    private static final int NONE = Sentences.NONE;
    private static final int HIDDEN = Sentences.HIDDEN;
    private static final int FULL = 0x20202020;
    private static final String SIXTEEN = "m;m;m;m;m;m;m;m;m;m;m;m;m;m;m;m";
    private static final Sentences DOC = new Sentences("BoundsTextTest");

    public static void main(String[] args) {
        constants();
        newObject();
        feed();
        end();
        faultSorts();
        clauses();
        ringsTold();
        endsTooEarly();
        letters();
        items();
        digits();
        blanks();
        otherBytes();
        reignSteps();
        reignDigits();
        step();
        textOfKingdom();
        whatIsGone();
        whatStays();
        fourAtMost();
        textRefused();
        DOC.ends();
    }

    private static void constants() {
        DOC.says("NONE = -1", () -> DOC.due("NONE", WaxReign.NONE, -1));
        DOC.says("HIDDEN = -1000000", () -> DOC.due("HIDDEN", WaxReign.HIDDEN, -1000000));
    }

    private static void newObject() {
        DOC.says("1: no KINGDOM", () -> {
            WaxReign x = new WaxReign();
            DOC.due("things", x.count(0), 0);
            DOC.due("rings", x.count(1), 0);
            DOC.due("rule(0)", x.rule(0), NONE);
        });
        DOC.says("1: none of all that is counted, and no LAW holds", () -> {
            WaxReign x = new WaxReign();
            for (int what = 0; what <= 11; what++) {
                DOC.due("count(" + what + ")", x.count(what), what == 5 ? NONE : 0);
            }
        });
        DOC.says("1: objects do not share what they are told", () -> {
            WaxReign x = Check.kingdom("t;r");
            x.knives(3);
            Check.tells(x, "abc");
            DOC.alike("another one", State.of(new WaxReign()), State.of(new WaxReign()));
            DOC.due("things of a new one", new WaxReign().count(0), 0);
            DOC.due("its knives", new WaxReign().count(8), 0);
            DOC.due("its tape", new WaxReign().count(4), 0);
        });
    }

    /** A TAPE of so many bytes: blanks. */
    private static WaxReign taped(int bytes) {
        WaxReign x = new WaxReign();
        while (x.count(4) + 20 <= bytes) {
            x.feed(FULL, FULL, FULL, FULL, FULL);
        }
        while (x.count(4) < bytes) {
            x.feed(0, 0, ' ', 0, 0);
        }
        return x;
    }

    private static void feed() {
        DOC.says("2: bytes of 0 are left out", () -> {
            DOC.due("twenty of 0", new WaxReign().feed(0, 0, 0, 0, 0), 0);
            for (int place = 0; place < 20; place++) {
                int[] words = {FULL, FULL, FULL, FULL, FULL};
                words[place / 4] &= ~(255 << 8 * (3 - place % 4));
                WaxReign x = new WaxReign();
                DOC.due("19, without " + place, x.feed(words[0], words[1], words[2], words[3], words[4]), 19);
            }
        });
        DOC.says("2: each of the twenty bytes comes", () -> {
            for (int place = 0; place < 20; place++) {
                int[] words = new int[5];
                words[place / 4] = 'm' << 8 * (3 - place % 4);
                WaxReign x = new WaxReign();
                DOC.due("the one at " + place, x.feed(words[0], words[1], words[2], words[3], words[4]), 1);
                DOC.due("is an m", x.fault(2), NONE);
            }
            DOC.due("all twenty", new WaxReign().feed(-1, -1, -1, -1, -1), 20);
        });
        DOC.says("2: of each number the highest first", () -> {
            WaxReign x = new WaxReign();
            x.feed('s' << 24 | '1' << 16 | '2' << 8 | ';', 'o' << 24 | '3' << 16 | ';' << 8 | 'p', '4' << 8 | '5', ';', 'm');
            DOC.due("a reign", x.text(2), 0);
            int[][] steps = {{1, 1, 2}, {3, 3, NONE}, {2, 4, 5}, {0, NONE, NONE}};
            for (int i = 0; i < steps.length; i++) {
                for (int what = 0; what < 3; what++) {
                    DOC.due("step " + i + " " + what, x.step(0, i, what), steps[i][what]);
                }
            }
        });
        DOC.says("2: bytes of 1 and of 255 come, too", () -> {
            DOC.due("1", new WaxReign().feed(0x01000000, 0, 0, 0, 0x00000001), 2);
            DOC.due("128", new WaxReign().feed(0x80000000, 0, 0, 0, 0x00000080), 2);
            DOC.due("255", new WaxReign().feed(0xFF000000, 0, 0, 0, 0x000000FF), 2);
        });
        DOC.says("2: 240 can be", () -> {
            DOC.due("twelve times twenty", taped(220).feed(FULL, FULL, FULL, FULL, FULL), 240);
            DOC.due("one more than 239", taped(239).feed(0, 0, 0, ' ', 0), 240);
            DOC.due("none more than 240", taped(240).feed(0, 0, 0, 0, 0), 240);
        });
        DOC.says("2: NONE: more than 240", () -> {
            DOC.refuses("one more than 240", () -> taped(240), x -> x.feed(0, 0, 0, 0, ' '), NONE);
            DOC.refuses("two more than 239", () -> taped(239), x -> x.feed(' ', 0, 0, 0, ' '), NONE);
            DOC.refuses("twenty more than 221", () -> taped(221), x -> x.feed(FULL, FULL, FULL, FULL, FULL), NONE);
        });
        DOC.says("2: NONE: more than 240 by whichever byte", () -> {
            WaxReign x = taped(240);
            for (int place = 0; place < 20; place++) {
                for (int sign : new int[] {1, 128, 255}) {
                    int[] words = new int[5];
                    words[place / 4] = sign << 8 * (3 - place % 4);
                    DOC.due(sign + " at " + place, x.feed(words[0], words[1], words[2], words[3], words[4]), NONE);
                }
            }
            DOC.due("bytes", x.count(4), 240);
        });
    }

    private static void end() {
        Supplier<WaxReign> five = () -> {
            WaxReign x = new WaxReign();
            Check.tells(x, "m;m;q");
            return x;
        };
        DOC.says("3: the first n bytes alone", () -> {
            WaxReign x = five.get();
            DOC.due("end(3)", x.end(3), true);
            DOC.due("three", x.count(4), 3);
            DOC.due("m;m", x.fault(2), NONE);
            x.feed(';', 0, 0, 0, 0);
            DOC.due("what stood behind them is gone", x.fault(2), 4);
        });
        DOC.says("3: all of them", () -> {
            WaxReign x = five.get();
            DOC.due("end(5)", x.end(5), true);
            DOC.due("five", x.count(4), 5);
        });
        DOC.says("3: none of them", () -> {
            WaxReign x = five.get();
            DOC.due("end(0)", x.end(0), true);
            DOC.due("none", x.count(4), 0);
            DOC.due("end(0) of none", x.end(0), true);
        });
        DOC.says("3: all of 240", () -> DOC.due("end(240)", taped(240).end(240), true));
        DOC.says("3: False: n", () -> {
            for (int n : new int[] {-1, 6, 240, Integer.MIN_VALUE, Integer.MAX_VALUE}) {
                DOC.refuses("end(" + n + ")", five, x -> x.end(n) ? 1 : 0, 0);
            }
            DOC.refuses("end(1) of none", WaxReign::new, x -> x.end(1) ? 1 : 0, 0);
            DOC.refuses("end(241)", () -> taped(240), x -> x.end(241) ? 1 : 0, 0);
        });
    }

    private static void faultSorts() {
        DOC.says("4: as a KINGDOM (0), a LAW (1), a REIGN (2)", () -> {
            DOC.faults(0, "t;r", NONE);
            DOC.faults(1, "t;r", 0);
            DOC.faults(2, "t;r", 0);
            DOC.faults(0, "y:1", 0);
            DOC.faults(1, "y:1", NONE);
            DOC.faults(2, "y:1", 0);
            DOC.faults(0, "s11", 1);
            DOC.faults(1, "s11", 0);
            DOC.faults(2, "s11", NONE);
        });
        DOC.says("4: -2: no such sort", () -> {
            for (int sort : new int[] {-1, 3, -2, Integer.MIN_VALUE, Integer.MAX_VALUE}) {
                DOC.refuses("fault(" + sort + ")", () -> Check.kingdom("t;r"), x -> x.fault(sort), -2);
            }
        });
        DOC.says("4: asking for a FAULT changes nothing", () -> {
            int[] ofKingdom = {NONE, 0, 1};
            int[] ofLaw = {0, NONE, 0};
            int[] ofReign = {0, 0, NONE};
            for (int sort = 0; sort <= 2; sort++) {
                int asked = sort;
                DOC.refuses("fault of a kingdom", () -> busy("s;th9d9;rk9;r"), x -> x.fault(asked), ofKingdom[sort]);
                DOC.refuses("fault of a law", () -> busy("y:9;y:h"), x -> x.fault(asked), ofLaw[sort]);
                DOC.refuses("fault of a reign", () -> busy("o9;o8"), x -> x.fault(asked), ofReign[sort]);
            }
        });
    }

    /** A KINGDOM in use under a LAW, with a REIGN, and a text on the TAPE. */
    private static WaxReign busy(String tape) {
        WaxReign x = Check.kingdomUnder("y:h+w", "sw9h12b1;to1h14d5s2w2;th9d4s1w1;rk4;rk3");
        Check.put(x, 2, "s02;m");
        x.knives(4);
        x.pry(0, 0);
        x.image();
        x.noted(1, 1, false);
        x.month();
        x.seal(0, 1);
        Check.tells(x, tape);
        return x;
    }

    private static void clauses() {
        DOC.says("s: one at most; a second s at it", () -> {
            DOC.faults(0, "t;r", NONE);
            DOC.faults(0, "s;t;r", NONE);
            DOC.faults(0, "s;s;t;r", 2);
            DOC.faults(0, "s;t;s;r", 4);
            DOC.faults(0, "sw1;t;r; sh1", 9);
        });
        DOC.says("t: 1 .. 7; an eighth t at it", () -> {
            DOC.faults(0, "s;r", 3);
            DOC.faults(0, "t;r", NONE);
            DOC.faults(0, "t;t;t;t;t;t;t;r", NONE);
            DOC.faults(0, "t;t;t;t;t;t;t;t;r", 14);
            DOC.faults(0, "r;t;t;t;t;t;t;t; t", 17);
        });
        DOC.says("r: 1 .. 5; a sixth r at it", () -> {
            DOC.faults(0, "s;t", 3);
            DOC.faults(0, "t;r;r;r;r;r", NONE);
            DOC.faults(0, "t;r;r;r;r;r;r", 12);
            DOC.faults(0, "r;r;r;r;r; r;t", 11);
        });
        DOC.says("all there can be: one s, seven t, five r", () -> {
            DOC.faults(0, "t;t;t;t;t;t;t;r;r;r;r;r;s", NONE);
            DOC.faults(0, "t;t;t;t;t;t;t;r;r;r;r;r;s;s", 26);
            DOC.faults(0, "t;t;t;t;t;t;t;r;r;r;r;r;s;t", 26);
            DOC.faults(0, "t;t;t;t;t;t;t;r;r;r;r;r;s;r", 26);
        });
        DOC.says("clauses in any order", () -> {
            for (String text : new String[] {"s;t;r", "s;r;t", "t;s;r", "t;r;s", "r;s;t", "r;t;s"}) {
                DOC.faults(0, text, NONE);
            }
        });
        DOC.says("clauses with ; between", () -> {
            DOC.faults(0, ";t;r", 0);
            DOC.faults(0, "t;;r", 2);
            DOC.faults(0, "tr", 1);
            DOC.faults(0, "t,r", 1);
            DOC.faults(0, "t;rt", 3);
        });
    }

    private static void ringsTold() {
        DOC.says("FAULT: the length, with a THING of a RING that is not told", () -> {
            DOC.faults(0, "to0;r", NONE);
            DOC.faults(0, "to1;r", 5);
            DOC.faults(0, "to1;r;r", NONE);
            DOC.faults(0, "to4;r;r;r;r", 11);
            DOC.faults(0, "to4;r;r;r;r;r", NONE);
            DOC.faults(0, "r;t;to1;t", 9);
            DOC.faults(0, "r;to1;t;r", NONE);
            DOC.faults(0, "to1;r   ", 8);
        });
        DOC.says("FAULT: the length, without a THING", () -> {
            DOC.faults(0, "r", 1);
            DOC.faults(0, "s;r;r", 5);
            DOC.faults(0, "s;r  ", 5);
        });
        DOC.says("FAULT: the length, without a RING", () -> {
            DOC.faults(0, "t", 1);
            DOC.faults(0, "s;t;t", 5);
            DOC.faults(0, "s;t  ", 5);
        });
    }

    private static void endsTooEarly() {
        DOC.says("FAULT of a KINGDOM: the length, if it ends too early", () -> {
            DOC.faults(0, "", 0);
            DOC.faults(0, " ", 1);
            DOC.faults(0, "s", 1);
            DOC.faults(0, "t;r;", 4);
            DOC.faults(0, "t;r; ", 5);
            DOC.faults(0, "t;rk", 4);
            DOC.faults(0, "t;rk ", 5);
        });
        DOC.says("FAULT of a REIGN: the length, if it ends too early", () -> {
            DOC.faults(2, "", 0);
            DOC.faults(2, "  ", 2);
            DOC.faults(2, "m;", 2);
            DOC.faults(2, "m; ", 3);
            DOC.faults(2, "s", 1);
            DOC.faults(2, "s1", 2);
            DOC.faults(2, "p1 ", 3);
            DOC.faults(2, "o", 1);
        });
        DOC.says("FAULT: the first byte, if there are several", () -> {
            DOC.faults(0, "th41;to9;r", 3);
            DOC.faults(0, "t;q;to9", 2);
            DOC.faults(2, "m;x;y", 2);
        });
    }

    private static void letters() {
        DOC.says("each letter once at most in a CLAUSE; a letter that was there at it", () -> {
            DOC.faults(0, "sw1w1;t;r", 3);
            DOC.faults(0, "sh1h1;t;r", 3);
            DOC.faults(0, "sb1b1;t;r", 3);
            DOC.faults(0, "to0o0;r", 3);
            DOC.faults(0, "th1h1;r", 3);
            DOC.faults(0, "td1d1;r", 3);
            DOC.faults(0, "ts1s1;r", 3);
            DOC.faults(0, "tw1w1;r", 3);
            DOC.faults(0, "rk1k1;t", 3);
            DOC.faults(0, "sw1h1b1w1;t;r", 7);
            DOC.faults(0, "to0h1d1s1w1 o0;r", 12);
        });
        DOC.says("a letter may be there again in another CLAUSE", () -> {
            DOC.faults(0, "sw1h1;tw1h1;tw1h1;rk1;rk1", NONE);
        });
        DOC.says("ITEMS of a CLAUSE in any order, all of them", () -> {
            DOC.faults(0, "sb1h1w1;tw1s1d1h1o0;rk1", NONE);
            DOC.faults(0, "sh1w1b1;ts1o0w1h1d1;rk1", NONE);
        });
        DOC.says("a letter of another CLAUSE is none of this one", () -> {
            DOC.faults(0, "so0;t;r", 1);
            DOC.faults(0, "sd1;t;r", 1);
            DOC.faults(0, "ss1;t;r", 1);
            DOC.faults(0, "sk1;t;r", 1);
            DOC.faults(0, "tb1;r", 1);
            DOC.faults(0, "tk1;r", 1);
            for (char letter : "owhdsb".toCharArray()) {
                DOC.faults(0, "r" + letter + "1;t", 1);
            }
        });
    }

    private static void items() {
        item("s w: 0 .. 99; 20 without", "s", "w", 99, 20, ";t;r", x -> x.rule(0));
        item("s h: 0 .. 40; 10 without", "s", "h", 40, 10, ";t;r", x -> x.rule(1));
        item("s b: 0 .. 9; 2 without", "s", "b", 9, 2, ";t;r", x -> x.rule(2));
        item("t o: 0 .. 4; 0 without", "t", "o", 4, 0, ";r;r;r;r;r", x -> x.thing(0, 0));
        item("t h: 0 .. 40; 15 without", "t", "h", 40, 15, ";r", x -> x.thing(0, 1));
        item("t d: 0 .. 9; 3 without", "t", "d", 9, 3, ";r", x -> x.thing(0, 2));
        item("t s: 0 .. 9; 2 without", "t", "s", 9, 2, ";r", x -> x.thing(0, 3));
        item("t w: 0 .. 9; 1 without", "t", "w", 9, 1, ";r", x -> x.thing(0, 4));
        item("r k: 0 .. 9; 3 without", "r", "k", 9, 3, ";t", x -> x.ring(0, 0));
        DOC.says("t w: with 0 it is OPEN", () -> {
            DOC.due("sealed by one", Check.kingdom("tw1;r").all(5), 1);
            DOC.due("open by none", Check.kingdom("tw0;r").all(5), 0);
            DOC.due("open by none", Check.kingdom("tw00;r").all(5), 0);
        });
        DOC.says("RULES without s", () -> {
            WaxReign x = Check.kingdom("sw1h2b3;t;r");
            Check.put(x, 0, "t;r");
            DOC.due("wax", x.rule(0), 20);
            DOC.due("heat", x.rule(1), 10);
            DOC.due("bees", x.rule(2), 2);
        });
        DOC.says("what one CLAUSE tells is not told by the next one", () -> {
            WaxReign x = Check.kingdom("to1h9d8s7w6;t;rk9;r");
            int[] due = {0, 15, 3, 2, 1};
            for (int what = 0; what < due.length; what++) {
                DOC.due("thing(1, " + what + ")", x.thing(1, what), due[what]);
            }
            DOC.due("ring(1, 0)", x.ring(1, 0), 3);
        });
    }

    /** The digits stand from byte 2 on. */
    private static void item(String sentence, String clause, String letter, int most, int without, String rest,
        ToIntFunction<WaxReign> told) {
        String head = clause + letter;
        DOC.says(sentence, () -> {
            DOC.due(head + " without", told.applyAsInt(Check.kingdom(clause + rest)), without);
            for (String number : new String[] {"0", "00", "1", "01", "" + most}) {
                DOC.due(head + number, told.applyAsInt(Check.kingdom(head + number + rest)), Integer.parseInt(number));
            }
            if (most < 99) {
                String beyond = "" + (most + 1);
                DOC.faults(0, head + beyond + rest, 1 + beyond.length());
                DOC.faults(0, head + "99" + rest, 3);
            }
            DOC.faults(0, head + "100" + rest, 4);
        });
    }

    private static void digits() {
        DOC.says("a number is one or two digits", () -> {
            DOC.faults(0, "th;r", 2);
            DOC.faults(0, "th ;r", 3);
            DOC.faults(0, "thd1;r", 2);
            DOC.faults(0, "th-1;r", 2);
            DOC.faults(0, "th1;r", NONE);
            DOC.faults(0, "th01;r", NONE);
        });
        DOC.says("a number out of bounds is wrong at its last digit", () -> {
            DOC.faults(0, "to5;r;r;r;r;r", 2);
            DOC.faults(0, "to05;r;r;r;r;r", 3);
            DOC.faults(0, "to50;r;r;r;r;r", 3);
            DOC.faults(0, "th41", 3);
            DOC.faults(0, "th 41", 4);
        });
        DOC.says("a third digit is wrong itself, whatever stands ahead of it", () -> {
            DOC.faults(0, "th000;r", 4);
            DOC.faults(0, "th400;r", 4);
            DOC.faults(0, "th410;r", 4);
            DOC.faults(0, "th9999;r", 4);
            DOC.faults(0, "to500;r", 4);
            DOC.faults(0, "rk100", 4);
        });
    }

    private static void blanks() {
        DOC.says("blanks may stand between all signs of a KINGDOM", () -> {
            DOC.faults(0, "  s  w 9 h 9  b 9 ;  t o 0 h 9 d 9 s 9 w 9 ; r  k 9  ", NONE);
            WaxReign x = Check.kingdom(" s w 12 ; t h  34 d 5 ; r k 6 ");
            DOC.due("wax", x.rule(0), 12);
            DOC.due("hard", x.thing(0, 1), 34);
        });
        DOC.says("blanks may not stand within numbers of a KINGDOM", () -> {
            DOC.faults(0, "th1 2;r", 4);
            DOC.faults(0, "th0  0;r", 5);
            DOC.faults(0, "to5 0;r", 2);
        });
        DOC.says("blanks may stand between all signs of a REIGN, digits of a STEP, too", () -> {
            DOC.faults(2, "  m ;  s 1  2 ; p  3 4 ;  o 5  ", NONE);
            WaxReign x = new WaxReign();
            Check.put(x, 2, " p  3  4 ");
            DOC.due("thing", x.step(0, 0, 1), 3);
            DOC.due("ring", x.step(0, 0, 2), 4);
        });
        DOC.says("a KINGDOM may fill the TAPE by blanks", () -> {
            String text = "t;r" + " ".repeat(237);
            DOC.faults(0, text, NONE);
            DOC.faults(0, " ".repeat(237) + "t;r", NONE);
            DOC.faults(0, " ".repeat(237) + "t;;", 239);
            DOC.faults(0, " ".repeat(238) + "t;", 240);
        });
    }

    private static void otherBytes() {
        DOC.says("32 alone is a blank", () -> {
            for (int sign : new int[] {1, 9, 10, 13, 31, 33, 127, 128, 160, 255}) {
                DOC.faults(0, "t;" + (char) sign + "r", 2);
                DOC.faults(1, "y" + (char) sign + ":1", 1);
                DOC.faults(2, "m;" + (char) sign + "m", 2);
            }
        });
        DOC.says("no byte ends a TEXT", () -> {
            for (int sign = 1; sign < 256; sign++) {
                if (sign != ' ') {
                    String end = "" + (char) sign;
                    DOC.faults(0, "t;r" + end, sign == ';' || sign == 'k' ? 4 : 3);
                    DOC.faults(2, "m" + end, sign == ';' ? 2 : 1);
                    DOC.faults(1, "y:h" + end, "+-*/=<>;".indexOf(sign) >= 0 ? 4 : 3);
                }
            }
        });
        DOC.says("bytes beyond 127 are no signs", () -> {
            DOC.faults(0, "" + (char) ('t' + 128) + ";r", 0);
            DOC.faults(0, "th" + (char) ('1' + 128) + ";r", 2);
            DOC.faults(1, "y:" + (char) ('h' + 128), 2);
            DOC.faults(2, "" + (char) ('m' + 128), 0);
            DOC.faults(2, "o" + (char) ('1' + 128), 1);
        });
        DOC.says("what stands next to the digits is none", () -> {
            DOC.faults(0, "th/;r", 2);
            DOC.faults(0, "th:;r", 2);
            DOC.faults(2, "o/", 1);
            DOC.faults(2, "o:", 1);
            DOC.faults(1, "y:/", 2);
            DOC.faults(1, "y::", 2);
        });
        DOC.says("letters are small ones", () -> {
            DOC.faults(0, "T;r", 0);
            DOC.faults(0, "tH1;r", 1);
            DOC.faults(1, "Y:1", 0);
            DOC.faults(1, "y:H", 2);
            DOC.faults(2, "M", 0);
        });
    }

    private static void reignSteps() {
        DOC.says("STEPS: 1 to 16; the ; ahead of a 17th at it", () -> {
            DOC.faults(2, "", 0);
            DOC.faults(2, "m", NONE);
            DOC.faults(2, SIXTEEN, NONE);
            DOC.faults(2, SIXTEEN + "  ", NONE);
            DOC.faults(2, SIXTEEN + ";m", 31);
            DOC.faults(2, SIXTEEN + ";", 31);
            DOC.faults(2, SIXTEEN + "  ;m", 33);
            DOC.faults(2, SIXTEEN + ";x", 31);
        });
        DOC.says("sixteen STEPS are kept", () -> {
            WaxReign x = new WaxReign();
            Check.put(x, 2, "s01;s12;s23;s34;s45;s56;s67;s78;s89;s90;p01;p12;p23;p34;p45;o6");
            for (int i = 0; i < 10; i++) {
                DOC.due("first digit", x.step(0, i, 1), i);
                DOC.due("second digit", x.step(0, i, 2), (i + 1) % 10);
            }
            DOC.due("the last one", x.step(0, 15, 0), 3);
            DOC.due("its digit", x.step(0, 15, 1), 6);
        });
        DOC.says("STEPS with ; between", () -> {
            DOC.faults(2, ";m", 0);
            DOC.faults(2, "m;;m", 2);
            DOC.faults(2, "mm", 1);
            DOC.faults(2, "s12m", 3);
        });
        DOC.says("a STEP is m, s, p or o", () -> {
            for (char letter = 'a'; letter <= 'z'; letter++) {
                if ("mspo".indexOf(letter) < 0) {
                    DOC.faults(2, "m;" + letter + "00", 2);
                }
            }
            DOC.faults(2, "m;s00;p00;o0", NONE);
        });
    }

    private static void reignDigits() {
        DOC.says("m has no digit", () -> {
            DOC.faults(2, "m0", 1);
            DOC.faults(2, "m 0", 2);
        });
        DOC.says("s and two digits", () -> {
            DOC.faults(2, "s;", 1);
            DOC.faults(2, "s1;", 2);
            DOC.faults(2, "s00", NONE);
            DOC.faults(2, "s99", NONE);
            DOC.faults(2, "s123", 3);
        });
        DOC.says("p and two digits", () -> {
            DOC.faults(2, "p;", 1);
            DOC.faults(2, "p1;", 2);
            DOC.faults(2, "p00", NONE);
            DOC.faults(2, "p99", NONE);
            DOC.faults(2, "p123", 3);
        });
        DOC.says("o and a digit", () -> {
            DOC.faults(2, "o;", 1);
            DOC.faults(2, "o0", NONE);
            DOC.faults(2, "o9", NONE);
            DOC.faults(2, "o12", 2);
        });
        DOC.says("what a STEP tells that is not there is no FAULT", () -> {
            WaxReign x = Check.kingdom("t;r");
            DOC.due("thing 1, ring 1", Check.fault(x, 2, "s11;p11;p01;o1"), NONE);
            DOC.due("thing 9, ring 9", Check.fault(x, 2, "s99;p99;p09;o9"), NONE);
            DOC.due("no wax", Check.fault(x, 2, "s00"), NONE);
            DOC.due("text", x.text(2), 0);
        });
    }

    private static void step() {
        Supplier<WaxReign> two = () -> {
            WaxReign x = new WaxReign();
            Check.put(x, 2, "m;s12;p34;o5");
            Check.put(x, 2, SIXTEEN);
            return x;
        };
        DOC.says("20: what: 0 m, 1 s, 2 p, 3 o", () -> {
            for (int i = 0; i < 4; i++) {
                DOC.due("step " + i, two.get().step(0, i, 0), i);
            }
        });
        DOC.says("20: its digit (NONE)", () -> {
            int[] due = {NONE, 1, 3, 5};
            for (int i = 0; i < 4; i++) {
                DOC.due("step " + i, two.get().step(0, i, 1), due[i]);
            }
        });
        DOC.says("20: the second one (NONE)", () -> {
            int[] due = {NONE, 2, 4, NONE};
            for (int i = 0; i < 4; i++) {
                DOC.due("step " + i, two.get().step(0, i, 2), due[i]);
            }
        });
        DOC.says("20: HIDDEN: no such REIGN", () -> {
            DOC.due("the last one", two.get().step(1, 0, 0), 0);
            for (int reign : new int[] {-1, 2, 4, Integer.MIN_VALUE, Integer.MAX_VALUE}) {
                DOC.refuses("step of " + reign, two, x -> x.step(reign, 0, 0), HIDDEN);
            }
            DOC.refuses("step of none", WaxReign::new, x -> x.step(0, 0, 0), HIDDEN);
        });
        DOC.says("20: HIDDEN: no such STEP", () -> {
            DOC.due("the last of four", two.get().step(0, 3, 0), 3);
            DOC.due("the last of sixteen", two.get().step(1, 15, 0), 0);
            DOC.refuses("a fifth of four", two, x -> x.step(0, 4, 0), HIDDEN);
            DOC.refuses("a 17th", two, x -> x.step(1, 16, 0), HIDDEN);
            for (int i : new int[] {-1, Integer.MIN_VALUE, Integer.MAX_VALUE}) {
                DOC.refuses("step " + i, two, x -> x.step(0, i, 0), HIDDEN);
            }
        });
        DOC.says("20: HIDDEN: no such what", () -> {
            for (int what : new int[] {-1, 3, Integer.MIN_VALUE, Integer.MAX_VALUE}) {
                DOC.refuses("step by " + what, two, x -> x.step(0, 1, what), HIDDEN);
            }
        });
    }

    private static void textOfKingdom() {
        DOC.says("5: how many THINGS", () -> {
            DOC.due("one", Check.put(new WaxReign(), 0, "t;r"), 1);
            DOC.due("seven", Check.put(new WaxReign(), 0, "t;t;t;t;t;t;t;r"), 7);
        });
        DOC.says("5: the TAPE is empty then", () -> {
            String[] texts = {"t;r", "y:1", "m"};
            for (int sort = 0; sort <= 2; sort++) {
                WaxReign x = new WaxReign();
                Check.put(x, sort, texts[sort]);
                DOC.due("behind a text of " + sort, x.count(4), 0);
                DOC.due("fault", x.fault(sort), 0);
            }
        });
        DOC.says("5: KINGDOMS come as often as they are told", () -> {
            WaxReign x = new WaxReign();
            for (int i = 0; i < 12; i++) {
                DOC.due("kingdom " + i, Check.put(x, 0, i % 2 == 0 ? "t;r;r" : "t;t;r"), i % 2 == 0 ? 1 : 2);
                DOC.due("rings", x.count(1), i % 2 == 0 ? 2 : 1);
            }
        });
        DOC.says("5: a smaller KINGDOM leaves nothing of a larger one", () -> {
            WaxReign x = Check.kingdom("t;t;t;t;t;t;t;r;r;r;r;r");
            Check.put(x, 0, "t;r");
            DOC.due("a second thing", Sentences.thing(x, 1, 0), Sentences.NO_SUCH_ELEMENT);
            DOC.due("a second ring", x.ring(1, 0), NONE);
            DOC.due("sealed", x.all(5), 1);
            DOC.due("known", x.known(0), 1);
        });
    }

    /** A KINGDOM in which all that can be has been. */
    private static WaxReign lived() {
        WaxReign x = busy("");
        x.pry(0, 0);
        x.pry(1, 1);
        x.carry(1, 9);
        x.heat(40);
        x.month();
        return x;
    }

    private static void whatIsGone() {
        DOC.says("5: TIME 0", () -> gone(6));
        DOC.says("5: SHAME of another KINGDOM is gone", () -> gone(7));
        DOC.says("5: NOTED of another KINGDOM is gone", () -> gone(9));
        DOC.says("5: the LOG of another KINGDOM is gone", () -> {
            gone(10);
            WaxReign x = lived();
            Check.put(x, 0, "t;r");
            DOC.due("log(0, 0)", x.log(0, 0), NONE);
        });
        DOC.says("5: ACTS of another KINGDOM are gone", () -> {
            gone(11);
            WaxReign x = lived();
            Check.put(x, 0, "t;r");
            DOC.due("undo", x.undo(), NONE);
        });
        DOC.says("5: the IMAGE of another KINGDOM is gone", () -> {
            WaxReign x = lived();
            Check.put(x, 0, "t;r");
            DOC.due("back", x.back(), NONE);
        });
        DOC.says("5: all else of another KINGDOM is gone", () -> {
            String text = "sw7h8b9;to1h9d8s7w6;rk5;r";
            WaxReign x = lived();
            x.law(NONE);
            Check.put(x, 0, text);
            WaxReign fresh = Check.kingdom(text);
            for (int what = 0; what < 3; what++) {
                DOC.due("rule " + what, x.rule(what), fresh.rule(what));
            }
            for (int what = 0; what < 7; what++) {
                DOC.due("thing " + what, x.thing(0, what), fresh.thing(0, what));
            }
            DOC.due("skill", x.ring(0, 0), 5);
            DOC.due("scars", x.ring(0, 1) + x.ring(1, 1), 0);
            DOC.due("forged", x.all(8), 0);
        });
    }

    private static void gone(int what) {
        WaxReign x = lived();
        DOC.due("count(" + what + ") is there", x.count(what) > 0, true);
        Check.put(x, 0, "t;r");
        DOC.due("count(" + what + ")", x.count(what), 0);
    }

    private static void whatStays() {
        DOC.says("5: LAWS stay, and which holds", () -> {
            WaxReign x = lived();
            Check.put(x, 0, "th30w4;r");
            DOC.due("laws", x.count(2), 1);
            DOC.due("the one that holds", x.count(5), 0);
            DOC.due("holds", x.thing(0, 6), 34);
        });
        DOC.says("5: REIGNS stay", () -> {
            WaxReign x = lived();
            Check.put(x, 0, "t;r");
            DOC.due("reigns", x.count(3), 1);
            DOC.due("step", x.step(0, 0, 2), 2);
        });
        DOC.says("5: KNIVES stay", () -> {
            WaxReign x = lived();
            Check.put(x, 0, "t;r");
            DOC.due("knives", x.count(8), 4);
        });
        DOC.says("5: a LAW or a REIGN leaves the KINGDOM as it is", () -> {
            WaxReign x = lived();
            WaxReign y = lived();
            Check.put(x, 1, "y:9");
            Check.put(x, 2, "m;m");
            DOC.due("time", x.count(6), y.count(6));
            DOC.due("noted", x.count(9), y.count(9));
            DOC.due("holds", x.count(5), 0);
            DOC.alike("gone back", State.goneBack(x), State.goneBack(y));
        });
    }

    private static WaxReign withFour(int sort, String tape) {
        WaxReign x = Check.kingdom("t;r");
        for (int i = 0; i < 4; i++) {
            Check.put(x, sort, sort == 1 ? "y:" + i : "o" + i);
        }
        Check.tells(x, tape);
        return x;
    }

    private static void fourAtMost() {
        DOC.says("5: a LAW: its number; 4 at most", () -> {
            WaxReign x = new WaxReign();
            for (int i = 0; i < 4; i++) {
                DOC.due("law " + i, Check.put(x, 1, "y:" + i), i);
                DOC.due("laws", x.count(2), i + 1);
            }
        });
        DOC.says("5: NONE: there are four LAWS", () -> {
            DOC.refuses("a fifth law", () -> withFour(1, "y:9"), x -> x.text(1), NONE);
            WaxReign x = withFour(1, "y:9");
            x.text(1);
            for (int i = 0; i < 4; i++) {
                x.law(i);
                DOC.due("law " + i, x.thing(0, 6), i);
            }
        });
        DOC.says("5: a REIGN: its number; 4 at most", () -> {
            WaxReign x = new WaxReign();
            for (int i = 0; i < 4; i++) {
                DOC.due("reign " + i, Check.put(x, 2, "o" + i), i);
                DOC.due("reigns", x.count(3), i + 1);
            }
        });
        DOC.says("5: NONE: there are four REIGNS", () -> {
            DOC.refuses("a fifth reign", () -> withFour(2, "o9"), x -> x.text(2), NONE);
        });
        DOC.says("5: four LAWS are no bound for REIGNS and KINGDOMS, four REIGNS none for LAWS", () -> {
            DOC.due("a reign", withFour(1, "m").text(2), 0);
            DOC.due("a kingdom", withFour(1, "t;t;r").text(0), 2);
            DOC.due("a law", withFour(2, "y:1").text(1), 0);
            DOC.due("a kingdom", withFour(2, "t;t;r").text(0), 2);
        });
    }

    private static void textRefused() {
        DOC.says("5: NONE: a FAULT of a KINGDOM", () -> {
            for (String text : new String[] {"", "t", "r", "t;r;", "to1;r", "th41;r", "t;t;t;t;t;t;t;t;r"}) {
                DOC.refuses("text(0) of '" + text + "'", () -> busy(text), x -> x.text(0), NONE);
            }
        });
        DOC.says("5: NONE: a FAULT of a LAW", () -> {
            for (String text : new String[] {"", "y", "y:", "y:1;", "y:12345", "y:1=1", "y:[[[[[[[1]]]]]]]"}) {
                DOC.refuses("text(1) of '" + text + "'", () -> busy(text), x -> x.text(1), NONE);
            }
        });
        DOC.says("5: NONE: a FAULT of a REIGN", () -> {
            for (String text : new String[] {"", "x", "m;", "s1", "o", SIXTEEN + ";m"}) {
                DOC.refuses("text(2) of '" + text + "'", () -> busy(text), x -> x.text(2), NONE);
            }
        });
        DOC.says("5: NONE: no such sort", () -> {
            for (int sort : new int[] {-1, 3, Integer.MIN_VALUE, Integer.MAX_VALUE}) {
                for (String text : new String[] {"t;r", "y:1", "m"}) {
                    DOC.refuses("text(" + sort + ")", () -> busy(text), x -> x.text(sort), NONE);
                }
            }
        });
    }
}
