import java.util.NoSuchElementException;
import java.util.Random;

/** Calls of all kinds with numbers of all kinds: only thing() throws, and only what it may. */
public final class NeverThrowsTest {
    private static final Check CHECK = new Check("NeverThrowsTest");
    private static final int[] ODD = {Integer.MIN_VALUE, Integer.MIN_VALUE + 1, -1000000, -2, -1, 0, 1, 2, 3, 6, 7, 8, 9, 10, 11, 12,
        13, 24, 25, 31, 32, 33, 60, 61, 63, 64, 99, 100, 101, 127, 128, 9999, 1 << 30, Integer.MAX_VALUE};
    private static final String[] TEXTS = {"t;r", "sw99h40b9;t;t;tw0;t;t;t;to4d9w9s9;r;rk9;rk0;r;r", "y:[h+w]*9999/s-m*d*k",
        "y:m>5&!(h<3|w=0)?h/0;y:99", "m;m;m;s01;p10;o0;m", "p99;s99;o9", "y:((((((1=1))))))?[[[[[[1]]]]]]", "y:", "t;t", "m;;"};
    private static final Random RANDOM = new Random(7);
    private static WaxReign x;

    public static void main(String[] args) {
        for (int run = 0; run < 1500; run++) {
            x = new WaxReign();
            for (int i = 0; i < 300; i++) {
                int call = RANDOM.nextInt(45);
                boolean mayThrow = call == 6;
                boolean good = true;
                try {
                    call(call);
                } catch (NoSuchElementException e) {
                    good = mayThrow;
                } catch (RuntimeException e) {
                    e.printStackTrace(System.out);
                    good = false;
                }
                CHECK.isTrue("call " + call + " of run " + run, good);
            }
        }
        CHECK.ends();
    }

    private static int n() {
        switch (RANDOM.nextInt(4)) {
            case 0:
                return ODD[RANDOM.nextInt(ODD.length)];
            case 1:
                return RANDOM.nextInt();
            default:
                return RANDOM.nextInt(8);
        }
    }

    private static void call(int call) {
        switch (call) {
            case 0: x.feed(n(), n(), n(), n(), n()); break;
            case 1: x.end(n()); break;
            case 2: x.fault(RANDOM.nextInt(4) - 1); break;
            case 3: x.text(RANDOM.nextInt(4) - 1); break;
            case 4: Check.tells(x, TEXTS[RANDOM.nextInt(TEXTS.length)]); x.text(RANDOM.nextInt(3)); break;
            case 5: x.rule(n()); break;
            case 6: x.thing(n(), n()); break;
            case 7: x.ring(n(), n()); break;
            case 8: x.law(n()); break;
            case 9: x.knives(n()); break;
            case 10: x.month(); break;
            case 11: x.seal(n(), n()); break;
            case 12: x.open(n()); break;
            case 13: x.pry(n(), n()); break;
            case 14: x.carry(n(), n()); break;
            case 15: x.heat(n()); break;
            case 16: x.years(n(), RANDOM.nextLong()); break;
            case 17: x.undo(); break;
            case 18: x.log(n(), n()); break;
            case 19: x.step(n(), n(), n()); break;
            case 20: x.run(n(), n()); break;
            case 21: x.perform(n()); break;
            case 22: x.warmth(n()); break;
            case 23: x.lasts(n()); break;
            case 24: x.least(n(), n(), n()); break;
            case 25: x.pack(n(), n()); break;
            case 26: x.order(n()); break;
            case 27: x.dealt(n(), n()); break;
            case 28: x.noted(n(), n(), RANDOM.nextBoolean()); break;
            case 29: x.who(n()); break;
            case 30: x.ask(); break;
            case 31: x.game(n(), n(), n(), n(), n(), n()); break;
            case 32: x.rests(n(), n(), n(), n()); break;
            case 33: x.odds(n(), n(), n()); break;
            case 34: x.all(n()); break;
            case 35: x.known(n()); break;
            case 36: x.spare(n()); break;
            case 37: x.openers(n()); break;
            case 38: x.tells(n()); break;
            case 39: x.harden(n(), n()); break;
            case 40: x.image(); break;
            case 41: x.back(); break;
            case 42: x.count(n()); break;
            case 43: x.years(60, n()); break;
            default: noise(); break;
        }
    }

    private static void noise() {
        String signs = "strowhdkbymp;:?!()[]+-*/=<>&| 0123456789";
        StringBuilder text = new StringBuilder();
        int length = RANDOM.nextInt(260);
        for (int i = 0; i < length; i++) {
            text.append(signs.charAt(RANDOM.nextInt(signs.length())));
        }
        Check.tells(x, text.toString());
        for (int sort = 0; sort < 3; sort++) {
            x.fault(sort);
        }
    }
}
