/** The boundary cases of LAWS, sentence by sentence: how they are told, how they are weighed, what holds (promise 9). */
public final class BoundsLawTest {
    private static final int NONE = Sentences.NONE;
    private static final Sentences DOC = new Sentences("BoundsLawTest");

    public static void main(String[] args) {
        clauses();
        conditions();
        sums();
        digits();
        withinOneAnother();
        blanks();
        fullTapes();
        bounds();
        division();
        worth();
        truths();
        lettersOfALaw();
        held();
        withoutLaw();
        law();
        DOC.ends();
    }

    private static void clauses() {
        DOC.says("CLAUSES of a LAW: one at least", () -> {
            DOC.faults(1, "", 0);
            DOC.faults(1, "  ", 2);
            DOC.faults(1, "y:1", NONE);
            DOC.faults(1, "y:1;y:2;y:3", NONE);
        });
        DOC.says("CLAUSES of a LAW with ; between", () -> {
            DOC.faults(1, "y:1;", 4);
            DOC.faults(1, "y:1; ", 5);
            DOC.faults(1, "y:1;;y:2", 4);
            DOC.faults(1, ";y:1", 0);
            DOC.faults(1, "y:1y:2", 3);
        });
        DOC.says("a CLAUSE of a LAW: y, :", () -> {
            DOC.faults(1, "1", 0);
            DOC.faults(1, "x:1", 0);
            DOC.faults(1, "y", 1);
            DOC.faults(1, "y1", 1);
            DOC.faults(1, "y;1", 1);
            DOC.faults(1, "y:", 2);
            DOC.faults(1, "y:;", 2);
            DOC.faults(1, "y:1;:2", 4);
        });
    }

    private static void conditions() {
        DOC.says("perhaps CONDITION ?, then SUM", () -> {
            DOC.faults(1, "y:1=1?2", NONE);
            DOC.faults(1, "y:1=1", 5);
            DOC.faults(1, "y:1=1;y:2", 5);
            DOC.faults(1, "y:1=1?", 6);
            DOC.faults(1, "y:1=1?;", 6);
            DOC.faults(1, "y:?1", 2);
            DOC.faults(1, "y:1?2", 3);
            DOC.faults(1, "y:1=1?2?3", 7);
            DOC.faults(1, "y:1=1?2=2", 7);
        });
        DOC.says("TRUTHS with | between, UNITS with & between", () -> {
            DOC.faults(1, "y:1=1|2=2&3=3|4=4?5", NONE);
            DOC.faults(1, "y:1=1|?5", 6);
            DOC.faults(1, "y:1=1&", 6);
            DOC.faults(1, "y:1=1||2=2?5", 6);
            DOC.faults(1, "y:1=1&|2=2?5", 6);
            DOC.faults(1, "y:|1=1?5", 2);
            DOC.faults(1, "y:1=1|2?5", 7);
            DOC.faults(1, "y:1&2=2?5", 3);
        });
        DOC.says("UNIT: SUM, one of = < >, SUM", () -> {
            DOC.faults(1, "y:1=1?1", NONE);
            DOC.faults(1, "y:1<1?1", NONE);
            DOC.faults(1, "y:1>1?1", NONE);
            DOC.faults(1, "y:1==1?1", 4);
            DOC.faults(1, "y:1<=1?1", 4);
            DOC.faults(1, "y:1=1=1?1", 5);
            DOC.faults(1, "y:=1?1", 2);
            DOC.faults(1, "y:1=?1", 4);
        });
        DOC.says("a CLAUSE that goes on with ! or ( behind its : has a CONDITION", () -> {
            DOC.faults(1, "y:!1=1?2", NONE);
            DOC.faults(1, "y:(1=1)?2", NONE);
            DOC.faults(1, "y:!1", 4);
            DOC.faults(1, "y:(1)", 4);
            DOC.faults(1, "y:!1=1", 6);
            DOC.faults(1, "y:(1=1)", 7);
            DOC.faults(1, "y:(1)+1", 4);
            DOC.faults(1, "y:(1=1)+1", 7);
        });
        DOC.says("! UNIT", () -> {
            DOC.faults(1, "y:!1=1?2", NONE);
            DOC.faults(1, "y:!!1=1&!2=2?2", NONE);
            DOC.faults(1, "y:!(1=1)?2", NONE);
            DOC.faults(1, "y:!?1", 3);
            DOC.faults(1, "y:!1?4", 4);
            DOC.faults(1, "y:!1&1=1?4", 4);
            DOC.faults(1, "y:(!1)?4", 5);
            DOC.faults(1, "y:!", 3);
            DOC.faults(1, "y:1=!1?4", 4);
            DOC.faults(1, "y:1!=1?4", 3);
        });
        DOC.says("( CONDITION )", () -> {
            DOC.faults(1, "y:(1=1|2=2&3=3)?1", NONE);
            DOC.faults(1, "y:1=1&(2=2)?1", NONE);
            DOC.faults(1, "y:()?1", 3);
            DOC.faults(1, "y:(1=1?1", 6);
            DOC.faults(1, "y:(1=1]?1", 6);
            DOC.faults(1, "y:1=1)?1", 5);
            DOC.faults(1, "y:1=(1)?1", 4);
            DOC.faults(1, "y:(", 3);
        });
    }

    private static void sums() {
        DOC.says("SUM: TERMS with + or - between", () -> {
            DOC.faults(1, "y:1+2-3", NONE);
            DOC.faults(1, "y:+1", 2);
            DOC.faults(1, "y:-1", 2);
            DOC.faults(1, "y:1+", 4);
            DOC.faults(1, "y:1-", 4);
            DOC.faults(1, "y:1+-2", 4);
        });
        DOC.says("TERM: ATOMS with * or / between", () -> {
            DOC.faults(1, "y:1*2/3", NONE);
            DOC.faults(1, "y:*1", 2);
            DOC.faults(1, "y:1*", 4);
            DOC.faults(1, "y:1/", 4);
            DOC.faults(1, "y:1*/2", 4);
        });
        DOC.says("ATOM: a letter (h w s m d k)", () -> {
            for (char letter = 'a'; letter <= 'z'; letter++) {
                DOC.faults(1, "y:" + letter, "hwsmdk".indexOf(letter) >= 0 ? NONE : 2);
            }
            DOC.faults(1, "y:hw", 3);
            DOC.faults(1, "y:h1", 3);
            DOC.faults(1, "y:1h", 3);
        });
        DOC.says("ATOM: [ SUM ]", () -> {
            DOC.faults(1, "y:[1]", NONE);
            DOC.faults(1, "y:[1+2]*[3]", NONE);
            DOC.faults(1, "y:[]", 3);
            DOC.faults(1, "y:[", 3);
            DOC.faults(1, "y:[1", 4);
            DOC.faults(1, "y:[1)", 4);
            DOC.faults(1, "y:1]", 3);
            DOC.faults(1, "y:[1=1]?1", 4);
            DOC.faults(1, "y:[!1]", 3);
        });
    }

    private static void digits() {
        DOC.says("a number of a LAW: 1 to 4 digits; a fifth one itself, whatever stands ahead of it", () -> {
            DOC.faults(1, "y:0", NONE);
            DOC.faults(1, "y:9999", NONE);
            DOC.faults(1, "y:0000", NONE);
            DOC.faults(1, "y:99999", 6);
            DOC.faults(1, "y:00000", 6);
            DOC.faults(1, "y:000000", 6);
            DOC.faults(1, "y:1+12345", 8);
            DOC.faults(1, "y:12345=1?1", 6);
            DOC.faults(1, "y:1=1?12345", 10);
        });
        DOC.says("numbers of a LAW are 0 .. 9999", () -> {
            weighs("y:0000", 0);
            weighs("y:0099", 99);
            weighs("y:9999-9998", 1);
            weighs("y:9999-9901", 98);
        });
    }

    private static void withinOneAnother() {
        DOC.says("at most six [ within one another; a seventh at it", () -> {
            DOC.faults(1, "y:[[[[[[1]]]]]]", NONE);
            DOC.faults(1, "y:[[[[[[[1]]]]]]]", 8);
            DOC.faults(1, "y:1=[[[[[[1]]]]]]?[[[[[[1]]]]]]", NONE);
            DOC.faults(1, "y:1=[[[[[[[1]]]]]]]?1", 10);
            DOC.faults(1, "y:1=1?[[[[[[[1]]]]]]]", 12);
        });
        DOC.says("at most six ( within one another; a seventh at it", () -> {
            DOC.faults(1, "y:((((((1=1))))))?1", NONE);
            DOC.faults(1, "y:(((((((1=1)))))))?1", 8);
            DOC.faults(1, "y:1=1&(((((((1=1)))))))?1", 12);
        });
        DOC.says("at most six ! within one another; a seventh at it", () -> {
            DOC.faults(1, "y:!!!!!!1=1?1", NONE);
            DOC.faults(1, "y:!!!!!!!1=1?1", 8);
            DOC.faults(1, "y:1=1|!!!!!!!1=1?1", 12);
        });
        DOC.says("at most six of ( [ ! together within one another; a seventh of them at it", () -> {
            DOC.faults(1, "y:!(!([[1]]=1))?1", NONE);
            DOC.faults(1, "y:!(!([[[1]]]=1))?1", 8);
            DOC.faults(1, "y:!!!(((1=1)))?1", NONE);
            DOC.faults(1, "y:!!!(((!1=1)))?1", 8);
            DOC.faults(1, "y:!!!((((1=1))))?1", 8);
            DOC.faults(1, "y:!!!(((1=[1])))?1", 10);
            DOC.faults(1, "y:((((((1=1|[1]=1))))))?1", 12);
        });
        DOC.says("what stands beside one another is not within one another", () -> {
            DOC.faults(1, "y:[1]+[1]+[1]+[1]+[1]+[1]+[1]+[1]", NONE);
            DOC.faults(1, "y:(1=1)|(1=1)|(1=1)|(1=1)|(1=1)|(1=1)|(1=1)|(1=1)?1", NONE);
            DOC.faults(1, "y:!1=1&!1=1&!1=1&!1=1&!1=1&!1=1&!1=1&!1=1?1", NONE);
            DOC.faults(1, "y:((((((1=1))))))&((((((1=1))))))?[[[[[[1]]]]]];y:!!!!!!1=1?1", NONE);
        });
        DOC.says("six within one another are weighed", () -> {
            weighs("y:[1+[1+[1+[1+[1+[1+1]*2]*2]*2]*2]*2]", 95);
            weighs("y:!(!(!(1=2)))?7;y:8", 7);
            weighs("y:!!!!!!1=1?7;y:8", 7);
            weighs("y:!!!!!1=1?7;y:8", 8);
            weighs("y:((((((1=2))))))?7;y:8", 8);
        });
    }

    private static void blanks() {
        DOC.says("blanks may stand between all signs of a LAW", () -> {
            DOC.faults(1, "  y : ! ( h = 1 & [ w ] > 2 | 3 < m ) ? 4 * [ d - k ] / 5 ; y  : 6  ", NONE);
            weighs(" y : 1 = 2 ? 3 ; y : 20 + [ 4 * 5 ] ", 40);
        });
        DOC.says("blanks may not stand within numbers of a LAW", () -> {
            DOC.faults(1, "y:1 2", 4);
            DOC.faults(1, "y:1234 5", 7);
            DOC.faults(1, "y:1=1 1?1", 6);
        });
    }

    private static void fullTapes() {
        fills("one SUM", "y:" + "1+1-".repeat(59) + "1", 1);
        fills("one TERM", "y:7*" + "1/1*".repeat(58) + "1/1", 7);
        fills("CLAUSES", "y:1=2?9;".repeat(29) + "y:1<2?77", 77);
        fills("CLAUSES without CONDITION", "y:5;" + "y:9;".repeat(58) + "y:99", 5);
        fills("UNITS", "y:" + "1=1&".repeat(58) + "1=2?5", 0);
        fills("TRUTHS", "y:" + "1=2|".repeat(58) + "1=1?5", 5);
        fills("! of each UNIT", "y:" + "!1=2&".repeat(46) + "!1=2?5", 5);
        fills("[ ]", "y:" + "[[[[[[1]]]]]]+".repeat(16) + "[[[[[1]]]]]+1", 18);
        DOC.says("four LAWS that fill the TAPE are kept", () -> {
            WaxReign x = Check.kingdom("t;r");
            for (int i = 0; i < 4; i++) {
                Check.put(x, 1, filled("y:" + i + "+" + "1+1-".repeat(58) + "1"));
            }
            for (int i = 0; i < 4; i++) {
                x.law(i);
                DOC.due("law " + i, x.thing(0, 6), i + 1);
            }
        });
    }

    private static void fills(String by, String law, int due) {
        DOC.says("a LAW may fill the TAPE by " + by, () -> weighs(filled(law), due));
    }

    /** The last bytes that are left of 240 are blanks. */
    private static String filled(String law) {
        return law + " ".repeat(240 - law.length());
    }

    /** HOLDS of a THING: HARD 21, WAX 3, SUN 4, DEEP 5, its RING of SKILL 6, in MONTH 0. */
    private static void weighs(String law, int due) {
        DOC.due("holds by " + law, Check.kingdomUnder(law, "th21w3s4d5;rk6").thing(0, 6), due);
    }

    private static void bounds() {
        DOC.says("behind + numbers are 1,000,000 at most", () -> {
            weighs("y:[9999*100+100]-9999*100-50", 50);
            weighs("y:[9999*100+101]-9999*100-50", 50);
            weighs("y:1000*1000+1-9999*100-50", 50);
        });
        DOC.says("behind + numbers are -1,000,000 at least", () -> {
            weighs("y:[0-9999*100]+[0-100]+9999*100+150", 50);
            weighs("y:[0-9999*100]+[0-101]+9999*100+150", 50);
            weighs("y:[0-1000*1000]+[0-1]+9999*100+150", 50);
        });
        DOC.says("behind - numbers are -1,000,000 at least", () -> {
            weighs("y:0-1000*1000+9999*100+150", 50);
            weighs("y:0-1000*1000-1+9999*100+150", 50);
            weighs("y:0-9999*100-100+9999*100+150", 50);
            weighs("y:0-9999*100-101+9999*100+150", 50);
        });
        DOC.says("behind - numbers are 1,000,000 at most", () -> {
            weighs("y:1000*1000-[0-1]-9999*100-50", 50);
            weighs("y:9999*100-[0-100]-9999*100-50", 50);
            weighs("y:9999*100-[0-101]-9999*100-50", 50);
        });
        DOC.says("behind * numbers are 1,000,000 at most", () -> {
            weighs("y:1000*1000-9999*100-50", 50);
            weighs("y:1001*1000-9999*100-50", 50);
            weighs("y:[0-1000]*[0-1001]-9999*100-50", 50);
            weighs("y:9999*9999-9999*100-50", 50);
        });
        DOC.says("behind * numbers are -1,000,000 at least", () -> {
            weighs("y:[0-1000]*1000+9999*100+150", 50);
            weighs("y:[0-1001]*1000+9999*100+150", 50);
            weighs("y:1001*[0-1000]+9999*100+150", 50);
        });
        DOC.says("* does not go round beyond 32 bits", () -> {
            weighs("y:[1000*1000]*[1000*1000]-9999*100-50", 50);
            weighs("y:[1000*1000]*[0-1000*1000]+9999*100+150", 50);
            weighs("y:1000*1000*4295-9999*100-50", 50);
            weighs("y:1000*1000*2148-9999*100-50", 50);
        });
        DOC.says("numbers are held behind each sign, not at the end alone", () -> {
            weighs("y:9999*9999/9999", 99);
            weighs("y:9999*9999/9999-90", 10);
            weighs("y:9999*9999-9999*9999+7", 7);
        });
    }

    private static void division() {
        DOC.says("/ cuts towards 0", () -> {
            weighs("y:10+7/2", 13);
            weighs("y:10+[0-7]/2", 7);
            weighs("y:10+7/[0-2]", 7);
            weighs("y:10+[0-7]/[0-2]", 13);
            weighs("y:10+1/2", 10);
            weighs("y:10+[0-1]/2", 10);
        });
        DOC.says("/ by 0 gives 0", () -> {
            weighs("y:10+5/0", 10);
            weighs("y:10+0/0", 10);
            weighs("y:10+[0-5]/0", 10);
            weighs("y:10+5/[h-h]*3", 10);
            weighs("y:10+5/m", 10);
        });
        DOC.says("* and / join ahead of + and -, from the left", () -> {
            weighs("y:2+3*4", 14);
            weighs("y:20-8/4", 18);
            weighs("y:20-3-4", 13);
            weighs("y:40/4/2", 5);
            weighs("y:7/2*2", 6);
        });
    }

    private static void worth() {
        DOC.says("WORTH: the SUM of the first CLAUSE whose CONDITION holds", () -> {
            weighs("y:1=2?1;y:1=1?2;y:1=1?3", 2);
            weighs("y:1=1?1;y:2", 1);
        });
        DOC.says("WORTH: the first CLAUSE that has no CONDITION", () -> {
            weighs("y:1=2?1;y:2;y:3", 2);
            weighs("y:1;y:1=1?2", 1);
        });
        DOC.says("WORTH: 0 without", () -> {
            weighs("y:1=2?9", 0);
            weighs("y:1=2?9;y:2=3?9", 0);
        });
    }

    private static void truths() {
        DOC.says("= holds if they are alike", () -> {
            weighs("y:h=20?1;y:2", 2);
            weighs("y:h=21?1;y:2", 1);
            weighs("y:h=22?1;y:2", 2);
        });
        DOC.says("< holds if the first is less", () -> {
            weighs("y:h<21?1;y:2", 2);
            weighs("y:h<22?1;y:2", 1);
            weighs("y:[0-1]<0?1;y:2", 1);
        });
        DOC.says("> holds if the first is more", () -> {
            weighs("y:h>21?1;y:2", 2);
            weighs("y:h>20?1;y:2", 1);
            weighs("y:0>[0-1]?1;y:2", 1);
        });
        DOC.says("| and & and !", () -> {
            for (int i = 0; i < 4; i++) {
                String one = "1=" + (i / 2 + 1);
                String other = "2=" + (i % 2 + 2);
                weighs("y:" + one + "|" + other + "?1;y:2", i < 3 ? 1 : 2);
                weighs("y:" + one + "&" + other + "?1;y:2", i == 0 ? 1 : 2);
                weighs("y:!" + one + "&" + other + "?1;y:2", i == 2 ? 1 : 2);
                weighs("y:!(" + one + "&" + other + ")?1;y:2", i == 0 ? 2 : 1);
            }
            weighs("y:1<2&1=1?1;y:2", 1);
            weighs("y:2>1&1=1?1;y:2", 1);
            weighs("y:2>1&1<2?1;y:2", 1);
            weighs("y:!1<2?1;y:2", 2);
            weighs("y:!2>1?1;y:2", 2);
            weighs("y:!2<1&!1>2?1;y:2", 1);
            weighs("y:1=1|1=2&1=2?1;y:2", 1);
            weighs("y:(1=1|1=2)&1=2?1;y:2", 2);
            weighs("y:1=2&1=2|1=1?1;y:2", 1);
            weighs("y:1=1&(1=2)?1;y:2", 2);
            weighs("y:1=1&(1=2|1=1)?1;y:2", 1);
            weighs("y:1=2|(1=1&(1=1))?1;y:2", 1);
            weighs("y:1=2|(1=1&(1=2))?1;y:2", 2);
            weighs("y:1=1&!(1=1)?1;y:2", 2);
        });
    }

    private static void lettersOfALaw() {
        DOC.says("h: how HARD", () -> ends("y:h", "th0;r", "th40;r", 40));
        DOC.says("w: its WAX", () -> ends("y:w", "tw0;r", "tw9;r", 9));
        DOC.says("s: SUN", () -> ends("y:s", "ts0;r", "ts9;r", 9));
        DOC.says("d: how DEEP", () -> ends("y:d", "td0;r", "td9;r", 9));
        DOC.says("k: SKILL of its RING", () -> {
            ends("y:k", "t;rk0", "t;rk9", 9);
            DOC.due("the last ring", Check.kingdomUnder("y:k", "to4;r;r;r;r;rk8").thing(0, 6), 8);
        });
        DOC.says("m: the MONTH, TIME modulo 12", () -> {
            WaxReign x = Check.kingdomUnder("y:m", "tw0;r");
            for (int time = 0; time < 26; time++) {
                DOC.due("at " + time, x.thing(0, 6), time % 12);
                x.month();
            }
        });
        DOC.says("letters are those of now", () -> {
            WaxReign x = Check.kingdomUnder("y:w+s*10", "tw1s2o1;rk9;r");
            x.seal(0, 3);
            x.carry(0, 5);
            DOC.due("wax and sun", x.thing(0, 6), 54);
            WaxReign y = Check.kingdomUnder("y:k", "tw9;tw9o1;rk9;r");
            y.pry(1, 0);
            DOC.due("skill", y.thing(0, 6), 8);
        });
    }

    private static void ends(String law, String least, String most, int due) {
        DOC.due(law + " of " + least, Check.kingdomUnder(law, least).thing(0, 6), 0);
        DOC.due(law + " of " + most, Check.kingdomUnder(law, most).thing(0, 6), due);
    }

    private static void held() {
        DOC.says("HOLDS is held at 99", () -> {
            weighs("y:98", 98);
            weighs("y:99", 99);
            weighs("y:100", 99);
            weighs("y:9999*9999", 99);
        });
        DOC.says("HOLDS is held at 0", () -> {
            weighs("y:1", 1);
            weighs("y:0", 0);
            weighs("y:0-1", 0);
            weighs("y:0-9999*9999", 0);
        });
        DOC.says("what is held is what melts: 99 and 0", () -> {
            DOC.due("held at 0 it holds no warmth", Check.kingdomUnder("y:0-5", "sh0;t;r").lasts(0), 2);
            DOC.due("and 1 melts it", Check.kingdomUnder("y:0-5", "sh1;t;r").lasts(0), 1);
            DOC.due("spare of 99", Check.kingdomUnder("y:500", "sh40;t;r").spare(0), 59);
        });
    }

    private static void withoutLaw() {
        DOC.says("no LAW: how HARD, and twice its WAX, less SUN", () -> {
            DOC.due("the most", Check.kingdom("th40w9s0;r").thing(0, 6), 58);
            DOC.due("one less", Check.kingdom("th40w9s1;r").thing(0, 6), 57);
            DOC.due("nothing", Check.kingdom("th7w1s9;r").thing(0, 6), 0);
            DOC.due("one", Check.kingdom("th8w1s9;r").thing(0, 6), 1);
        });
        DOC.says("no LAW: held at 0, too", () -> {
            DOC.due("holds", Check.kingdom("th6w1s9;r").thing(0, 6), 0);
            DOC.due("holds", Check.kingdom("th0w0s9;r").thing(0, 6), 0);
            DOC.due("no warmth does not melt it", Check.kingdom("sh0;th0w1s9;r").month(), 0);
        });
    }

    private static WaxReign twoLaws() {
        WaxReign x = Check.kingdom("th10w1s0;r");
        Check.put(x, 1, "y:1");
        Check.put(x, 1, "y:2");
        x.law(1);
        x.month();
        return x;
    }

    private static void law() {
        DOC.says("9: none holds at first, one that is told does not hold by itself", () -> {
            WaxReign x = Check.kingdom("th10w1s0;r");
            Check.put(x, 1, "y:1");
            DOC.due("the one that holds", x.count(5), NONE);
            DOC.due("holds", x.thing(0, 6), 12);
        });
        DOC.says("9: the LAW that holds", () -> {
            WaxReign x = twoLaws();
            DOC.due("law(0)", x.law(0), true);
            DOC.due("it holds", x.count(5), 0);
            DOC.due("holds", x.thing(0, 6), 1);
            DOC.due("law(0) again", x.law(0), true);
            DOC.due("law(1)", x.law(1), true);
            DOC.due("holds", x.thing(0, 6), 2);
        });
        DOC.says("9: NONE: none", () -> {
            WaxReign x = twoLaws();
            DOC.due("law(NONE)", x.law(NONE), true);
            DOC.due("the one that holds", x.count(5), NONE);
            x.undo();
            DOC.due("holds", x.thing(0, 6), 12);
            DOC.due("law(NONE) of none", new WaxReign().law(NONE), true);
        });
        DOC.says("9: False: no such one", () -> {
            for (int law : new int[] {-2, 2, 3, 4, Integer.MIN_VALUE, Integer.MAX_VALUE}) {
                DOC.refuses("law(" + law + ")", BoundsLawTest::twoLaws, x -> x.law(law) ? 1 : 0, 0);
            }
            DOC.refuses("law(0) of none", WaxReign::new, x -> x.law(0) ? 1 : 0, 0);
        });
        DOC.says("9: a LAW that holds is no ACT", () -> {
            WaxReign x = twoLaws();
            int acts = x.count(11);
            x.law(0);
            DOC.due("acts", x.count(11), acts);
            x.undo();
            DOC.due("it holds on", x.count(5), 0);
        });
    }
}
