import java.util.ArrayList;
import java.util.List;
import java.util.NoSuchElementException;
import java.util.function.Supplier;
import java.util.function.ToLongFunction;

/** Tests of the document's sentences, one each: a sentence is broken if one answer of its test is not as due. */
final class Sentences {
    static final int NONE = -1;
    static final int HIDDEN = -1000000;
    /** Stands for a NoSuchElementException where answers are compared. */
    static final long NO_SUCH_ELEMENT = Long.MIN_VALUE;

    private final String name;
    private final List<String> told = new ArrayList<>();
    private int broken;
    private int asked;
    private int wrong;

    Sentences(String name) {
        this.name = name;
    }

    void says(String sentence, Runnable test) {
        int before = asked;
        wrong = 0;
        test.run();
        if (asked == before) {
            tellsWrong("nothing was asked");
        }
        if (told.contains(sentence)) {
            tellsWrong("another test has this name");
        }
        told.add(sentence);
        if (wrong > 0) {
            broken++;
            System.out.println(name + ": BROKEN: " + sentence);
        }
    }

    private void tellsWrong(String text) {
        wrong++;
        if (wrong <= 10) {
            System.out.println(name + ": " + text);
        }
    }

    void due(String call, long got, long want) {
        asked++;
        if (got != want) {
            tellsWrong(call + " answered " + got + ", due is " + want);
        }
    }

    void due(String call, boolean got, boolean want) {
        due(call, got ? 1 : 0, want ? 1 : 0);
    }

    void faults(int sort, String text, int want) {
        due("fault(" + sort + ") of '" + text + "'", Check.fault(new WaxReign(), sort, text), want);
    }

    /** What is asked for behind the call is what was asked for ahead of it, and what it would be without it. */
    void refuses(String call, Supplier<WaxReign> made, ToLongFunction<WaxReign> asks, long want) {
        WaxReign x = made.get();
        List<String> ahead = State.of(x);
        due(call, asks.applyAsLong(x), want);
        alike(call + " leaves", State.of(x), ahead);
        WaxReign with = made.get();
        WaxReign without = made.get();
        asks.applyAsLong(with);
        alike(call + " lets be undone", State.goneBack(with), State.goneBack(without));
    }

    void alike(String what, List<String> got, List<String> want) {
        asked++;
        for (int i = 0; i < Math.max(got.size(), want.size()); i++) {
            String one = i < got.size() ? got.get(i) : "nothing";
            String other = i < want.size() ? want.get(i) : "nothing";
            if (!one.equals(other)) {
                tellsWrong(what + " " + one + ", due is " + other);
                return;
            }
        }
    }

    static long thing(WaxReign x, int thing, int what) {
        try {
            return x.thing(thing, what);
        } catch (NoSuchElementException e) {
            return NO_SUCH_ELEMENT;
        }
    }

    void ends() {
        System.out.println(name + ": " + told.size() + " sentences, " + broken + " broken, " + asked + " asked");
        if (broken > 0 || told.isEmpty()) {
            System.exit(1);
        }
    }
}
