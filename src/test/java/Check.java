import java.util.NoSuchElementException;

/** Counts answers that are not as due, and feeds texts. */
final class Check {
    private final String name;
    private int asked;
    private int wrong;

    Check(String name) {
        this.name = name;
    }

    void same(String what, long got, long due) {
        asked++;
        if (got != due) {
            wrong++;
            if (wrong <= 40) {
                System.out.println(name + ": " + what + " answered " + got + ", due is " + due);
            }
        }
    }

    void isTrue(String what, boolean got) {
        same(what, got ? 1 : 0, 1);
    }

    void isFalse(String what, boolean got) {
        same(what, got ? 1 : 0, 0);
    }

    void noSuchThing(WaxReign x, int thing, int what) {
        boolean thrown = false;
        try {
            x.thing(thing, what);
        } catch (NoSuchElementException e) {
            thrown = true;
        }
        isTrue("thing(" + thing + ", " + what + ") throws", thrown);
    }

    void ends() {
        System.out.println(name + ": " + asked + " asked, " + wrong + " wrong");
        if (wrong > 0 || asked == 0) {
            System.exit(1);
        }
    }

    /** The TAPE holds this text alone then. */
    static void tells(WaxReign x, String text) {
        x.end(0);
        for (int from = 0; from < text.length(); from += 20) {
            x.feed(word(text, from), word(text, from + 4), word(text, from + 8), word(text, from + 12), word(text, from + 16));
        }
    }

    static int word(String text, int from) {
        int word = 0;
        for (int i = from; i < from + 4; i++) {
            word = word << 8 | (i < text.length() ? text.charAt(i) & 255 : 0);
        }
        return word;
    }

    static int fault(WaxReign x, int sort, String text) {
        tells(x, text);
        return x.fault(sort);
    }

    static int put(WaxReign x, int sort, String text) {
        tells(x, text);
        return x.text(sort);
    }

    static WaxReign kingdom(String text) {
        WaxReign x = new WaxReign();
        if (put(x, 0, text) < 1) {
            throw new IllegalStateException("no kingdom: " + text);
        }
        return x;
    }

    static WaxReign kingdomUnder(String law, String text) {
        WaxReign x = kingdom(text);
        int number = put(x, 1, law);
        if (number < 0 || !x.law(number)) {
            throw new IllegalStateException("no law: " + law);
        }
        return x;
    }
}
