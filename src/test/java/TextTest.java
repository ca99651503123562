/** Promises 1 to 5: a new object, feed, end, fault, text; and 20, which reads a REIGN back. */
public final class TextTest {
    private static final Check CHECK = new Check("TextTest");

    public static void main(String[] args) {
        newObject();
        feed();
        end();
        faultOfKingdom();
        faultOfLaw();
        faultOfReign();
        textOfKingdom();
        textOfLawAndReign();
        stepsOfReign();
        CHECK.ends();
    }

    private static void newObject() {
        WaxReign x = new WaxReign();
        for (int what = 0; what <= 11; what++) {
            CHECK.same("new count(" + what + ")", x.count(what), what == 5 ? -1 : 0);
        }
        CHECK.same("new rule", x.rule(0), -1);
        CHECK.same("new month", x.month(), -1);
        CHECK.same("new image", x.image(), -1);
        CHECK.same("new back", x.back(), -1);
        CHECK.same("new all(5)", x.all(5), -1);
        CHECK.noSuchThing(x, 0, 0);
        CHECK.same("NONE", WaxReign.NONE, -1);
        CHECK.same("HIDDEN", WaxReign.HIDDEN, -1000000);
    }

    private static void feed() {
        WaxReign x = new WaxReign();
        CHECK.same("no bytes", x.feed(0, 0, 0, 0, 0), 0);
        CHECK.same("bytes of 0 are left out", x.feed(0x74003B00, 0, 0x00000072, 0, 0), 3);
        CHECK.same("the highest comes first", x.fault(0), -1);
        CHECK.same("high bytes", x.feed(0xFF80FF80, 0, 0, 0, 0xFFFFFFFF), 11);
        CHECK.same("high bytes are no signs", x.fault(0), 3);
        WaxReign y = new WaxReign();
        for (int i = 1; i <= 11; i++) {
            CHECK.same("feed " + i, y.feed(0x20202020, 0x20202020, 0x20202020, 0x20202020, 0x20202020), 20 * i);
        }
        CHECK.same("nineteen more", y.feed(0x20202020, 0x20202020, 0x20202020, 0x20202020, 0x202020), 239);
        CHECK.same("two more are too many", y.feed(0x2020, 0, 0, 0, 0), -1);
        CHECK.same("and nothing came", y.count(4), 239);
        CHECK.same("one more", y.feed(0, 0, 0, 0, 0x20), 240);
        CHECK.same("none more", y.feed(0, 0, 0, 0, 0), 240);
        CHECK.same("241", y.feed(0, 0, 1, 0, 0), -1);
        CHECK.same("blanks alone end too early", y.fault(0), 240);
        for (int word = 0; word < 5; word++) {
            int[] one = new int[5];
            one[word] = 0x6D;
            CHECK.same("241 by word " + word, y.feed(one[0], one[1], one[2], one[3], one[4]), -1);
            WaxReign z = new WaxReign();
            CHECK.same("word " + word, z.feed(one[0], one[1], one[2], one[3], one[4]), 1);
            CHECK.same("is a byte", z.fault(2), -1);
        }
        WaxReign z = new WaxReign();
        z.feed(0x733031FF, 0x02030405, 0, 0, 0);
        CHECK.same("bytes in their order", z.fault(2), 3);
        CHECK.same("and after them", z.end(3) ? z.text(2) : -5, 0);
        CHECK.same("s01", z.step(0, 0, 2), 1);
    }

    private static void end() {
        WaxReign x = new WaxReign();
        CHECK.isTrue("end(0) of nothing", x.end(0));
        CHECK.isFalse("end(1) of nothing", x.end(1));
        Check.tells(x, "t;r;q");
        CHECK.isFalse("end(6)", x.end(6));
        CHECK.isFalse("end(-1)", x.end(-1));
        CHECK.isFalse("least int", x.end(Integer.MIN_VALUE));
        CHECK.same("refused ends change nothing", x.count(4), 5);
        CHECK.isTrue("end(5)", x.end(5));
        CHECK.same("all of it", x.count(4), 5);
        CHECK.isTrue("end(3)", x.end(3));
        CHECK.same("its first three", x.fault(0), -1);
        CHECK.same("three", x.count(4), 3);
    }

    private static void faults(int sort, String text, int due) {
        CHECK.same("fault(" + sort + ") of '" + text + "'", Check.fault(new WaxReign(), sort, text), due);
    }

    private static void faultOfKingdom() {
        faults(0, "", 0);
        faults(0, "   ", 3);
        faults(0, "t;r", -1);
        faults(0, "r;t", -1);
        faults(0, "r;s;t", -1);
        faults(0, "  t ;  r  ", -1);
        faults(0, "t", 1);
        faults(0, "t  ", 3);
        faults(0, "r", 1);
        faults(0, "s;r", 3);
        faults(0, "t;r;", 4);
        faults(0, "t;;r", 2);
        faults(0, ";t;r", 0);
        faults(0, "s;t;s;r", 4);
        faults(0, "T;r", 0);
        faults(0, "t;r.", 3);
        faults(0, "sw99h40b9;to4h40d9s9w9;rk9;r;r;r;r", -1);
        faults(0, "sw00h00b00;to00h00d00s00w00;rk00", -1);
        faults(0, "sh40;t;r", -1);
        faults(0, "sh41;t;r", 3);
        faults(0, "sb9;t;r", -1);
        faults(0, "sb10;t;r", 3);
        faults(0, "sw999;t;r", 4);
        faults(0, "to5;r", 2);
        faults(0, "to05;r", 3);
        faults(0, "to50;r", 3);
        faults(0, "to500;r", 4);
        faults(0, "to000;r", 4);
        faults(0, "to5 0;r", 2);
        faults(0, "to4 0;r", 4);
        faults(0, "th41;r", 3);
        faults(0, "th4 1;r", 4);
        faults(0, "td10;r", 3);
        faults(0, "td09;r", -1);
        faults(0, "ts10;r", 3);
        faults(0, "tw10;r", 3);
        faults(0, "t;rk10", 5);
        faults(0, "t;rk9k", 5);
        faults(0, "t;rk9h", 5);
        faults(0, "th1o0h1;r", 5);
        faults(0, "sw1h1b1w1", 7);
        faults(0, "so1;t;r", 1);
        faults(0, "tb1;r", 1);
        faults(0, "tr1;r", 1);
        faults(0, "th;r", 2);
        faults(0, "th", 2);
        faults(0, "th  ", 4);
        faults(0, "thh1;r", 2);
        faults(0, "th 12 d 4 ; r k 3 ", -1);
        faults(0, "to1;r", 5);
        faults(0, "to1;r ", 6);
        faults(0, "to1;r;r", -1);
        faults(0, "to4;r;r;r;r", 11);
        faults(0, "r;to1;t", 7);
        faults(0, "t;t;t;t;t;t;t;r", -1);
        faults(0, "t;t;t;t;t;t;t;t;r", 14);
        faults(0, "t;r;r;r;r;r", -1);
        faults(0, "t;r;r;r;r;r;r", 12);
        faults(0, "s;t;t;t;t;t;t;t;r;r;r;r;r", -1);
        faults(0, "t;r" + (char) 200, 3);
        faults(0, "t;r" + (char) 9, 3);
        CHECK.same("fault(-1)", new WaxReign().fault(-1), -2);
        CHECK.same("fault(3)", new WaxReign().fault(3), -2);
    }

    private static void faultOfLaw() {
        faults(1, "", 0);
        faults(1, "y", 1);
        faults(1, "y:", 2);
        faults(1, "x:1", 0);
        faults(1, "y1", 1);
        faults(1, "y:1", -1);
        faults(1, " y : 1 ", -1);
        faults(1, "y:1;", 4);
        faults(1, "y:1;y:2", -1);
        faults(1, "y:1;1", 4);
        faults(1, "y:9999", -1);
        faults(1, "y:0000", -1);
        faults(1, "y:00000", 6);
        faults(1, "y:1 2", 4);
        faults(1, "y:h+w-s*m/d+k", -1);
        faults(1, "y:x", 2);
        faults(1, "y:hw", 3);
        faults(1, "y:h2", 3);
        faults(1, "y:2h", 3);
        faults(1, "y:-1", 2);
        faults(1, "y:1+", 4);
        faults(1, "y:1+*2", 4);
        faults(1, "y:1?2", 3);
        faults(1, "y:1&2", 3);
        faults(1, "y:1)", 3);
        faults(1, "y:[1]", -1);
        faults(1, "y:[1", 4);
        faults(1, "y:[1)", 4);
        faults(1, "y:[1=1]", 4);
        faults(1, "y:[]", 3);
        faults(1, "y:1=1?2", -1);
        faults(1, "y:1=1", 5);
        faults(1, "y:1=1;", 5);
        faults(1, "y:1=1=1?1", 5);
        faults(1, "y:1=?1", 4);
        faults(1, "y:1>=1?1", 4);
        faults(1, "y:1=1?", 6);
        faults(1, "y:1=1?2=2", 7);
        faults(1, "y:1=1?2?3", 7);
        faults(1, "y:1=1?(1=1)", 6);
        faults(1, "y:1=1?!1=1", 6);
        faults(1, "y:1=1&2=2|h<3?4", -1);
        faults(1, "y:1=1&?4", 6);
        faults(1, "y:1=1|", 6);
        faults(1, "y:1=1&2?4", 7);
        faults(1, "y:(1=1)?4", -1);
        faults(1, "y:(1=1)", 7);
        faults(1, "y:(1=1)+2?4", 7);
        faults(1, "y:(1=1)=2?4", 7);
        faults(1, "y:(1)?4", 4);
        faults(1, "y:(1=1?4", 6);
        faults(1, "y:()?4", 3);
        faults(1, "y:!1=1?4", -1);
        faults(1, "y:!1?4", 4);
        faults(1, "y:1=!1?4", 4);
        faults(1, "y:1=(1)?4", 4);
        faults(1, "y:1=1&!(2=2|!3=3)?4", -1);
        faults(1, "y:[1]+2=[3]?[4];y:5", -1);
        faults(1, "y:[[[[[[1]]]]]]", -1);
        faults(1, "y:[[[[[[[1]]]]]]]", 8);
        faults(1, "y:((((((1=1))))))?1", -1);
        faults(1, "y:(((((((1=1)))))))?1", 8);
        faults(1, "y:!!!!!!1=1?1", -1);
        faults(1, "y:!!!!!!!1=1?1", 8);
        faults(1, "y:!(!([[1]]=1))?1", -1);
        faults(1, "y:!(!([[[1]]]=1))?1", 8);
        faults(1, "y:!(!([1]=[[[1]]]))?1", 12);
        faults(1, "y:!!!!!!1=[1]?1", 10);
        faults(1, "y:!!!!!!1=1&[1]=[[1]]|!1=1?[[[[[[1]]]]]]", -1);
        faults(1, "y:[1]+[1]+[1]+[1]+[1]+[1]+[1]", -1);
        faults(1, "y:1=1?[[[[[[[1]]]]]]]", 12);
    }

    private static void faultOfReign() {
        faults(2, "", 0);
        faults(2, " ", 1);
        faults(2, "m", -1);
        faults(2, "x", 0);
        faults(2, "t;r", 0);
        faults(2, "m;", 2);
        faults(2, "mm", 1);
        faults(2, "m1", 1);
        faults(2, "s", 1);
        faults(2, "s1", 2);
        faults(2, "s12", -1);
        faults(2, "s123", 3);
        faults(2, "p99", -1);
        faults(2, "p9m", 2);
        faults(2, "o", 1);
        faults(2, "o0", -1);
        faults(2, "o00", 2);
        faults(2, "o;", 1);
        faults(2, " s 0 1 ; p 2 3 ; o 4 ; m ", -1);
        String sixteen = "m;m;m;m;m;m;m;m;m;m;m;m;m;m;m;m";
        faults(2, sixteen, -1);
        faults(2, sixteen + " ", -1);
        faults(2, sixteen + ";", 31);
        faults(2, sixteen + " ;m", 32);
        faults(2, sixteen + "m", 31);
    }

    private static void textOfKingdom() {
        WaxReign x = new WaxReign();
        CHECK.same("a fault is refused", Check.put(x, 0, "t;r;"), -1);
        CHECK.same("and the tape stays", x.count(4), 4);
        CHECK.same("no kingdom came", x.count(0), 0);
        CHECK.same("no such sort", x.text(3), -1);
        CHECK.same("no such sort below", x.text(-1), -1);
        CHECK.same("the tape stays", x.count(4), 4);
        x.end(3);
        CHECK.same("text(0)", x.text(0), 1);
        CHECK.same("the tape is empty", x.count(4), 0);
        x.law(Check.put(x, 1, "y:0"));
        Check.put(x, 2, "m");
        x.knives(7);
        Check.put(x, 0, "sw1h2b3;to1h4d5s6w7;t;r;rk8");
        x.noted(0, 0, true);
        x.month();
        x.image();
        CHECK.same("shame came", x.count(7), 8);
        CHECK.same("a refused text leaves the kingdom", Check.put(x, 0, "t"), -1);
        CHECK.same("as it was", x.count(6), 1);
        CHECK.same("another kingdom", Check.put(x, 0, "t;t;t;r"), 3);
        int[] due = {3, 1, 1, 1, 0, 0, 0, 0, 7, 0, 0, 0};
        for (int what = 0; what < due.length; what++) {
            CHECK.same("then count(" + what + ")", x.count(what), due[what]);
        }
        CHECK.same("its image is gone", x.back(), -1);
        CHECK.same("nothing to undo", x.undo(), -1);
        CHECK.same("forged", x.all(8), 0);
        CHECK.same("rules without s", x.rule(0) * 10000 + x.rule(1) * 100 + x.rule(2), 201002);
    }

    private static void textOfLawAndReign() {
        WaxReign x = new WaxReign();
        for (int i = 0; i < 4; i++) {
            CHECK.same("law " + i, Check.put(x, 1, "y:" + i), i);
            CHECK.same("the tape is empty", x.count(4), 0);
            CHECK.same("reign " + i, Check.put(x, 2, "o" + i), i);
            CHECK.same("the tape is empty", x.count(4), 0);
        }
        CHECK.same("a fifth law", Check.put(x, 1, "y:4"), -1);
        CHECK.same("stays on the tape", x.count(4), 3);
        CHECK.same("a fifth reign", Check.put(x, 2, "o4"), -1);
        CHECK.same("stays there", x.count(4), 2);
        CHECK.same("four laws", x.count(2), 4);
        CHECK.same("four reigns", x.count(3), 4);
        CHECK.same("the last one", x.step(3, 0, 1), 3);
    }

    private static void stepsOfReign() {
        WaxReign x = new WaxReign();
        Check.put(x, 2, "m;s 1 2;p34;o9");
        int[][] due = {{0, -1, -1}, {1, 1, 2}, {2, 3, 4}, {3, 9, -1}};
        for (int i = 0; i < 4; i++) {
            for (int what = 0; what < 3; what++) {
                CHECK.same("step(0, " + i + ", " + what + ")", x.step(0, i, what), due[i][what]);
            }
        }
        int[][] none = {{-1, 0, 0}, {1, 0, 0}, {4, 0, 0}, {0, -1, 0}, {0, 4, 0}, {0, 0, -1}, {0, 0, 3},
            {0, Integer.MAX_VALUE, 0}, {Integer.MIN_VALUE, 0, 0}};
        for (int[] call : none) {
            CHECK.same("no such step", x.step(call[0], call[1], call[2]), -1000000);
        }
    }
}
