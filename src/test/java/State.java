import java.util.ArrayList;
import java.util.List;

/** What an object answers about itself, as rows that can be compared. */
final class State {
    private static final int ROWS_OF_LOG = 3;

    private final WaxReign x;
    private final List<String> rows = new ArrayList<>();

    private State(WaxReign x) {
        this.x = x;
    }

    /** All that is asked for here changes nothing. Some 200 calls at most, so that an object bears two of these. */
    static List<String> of(WaxReign x) {
        State state = new State(x);
        state.counts();
        state.kingdom();
        state.log();
        state.knowledge();
        state.reigns();
        return state.rows;
    }

    /** Undoes all ACTS, then goes BACK: the object is another one behind this. */
    static List<String> goneBack(WaxReign x) {
        State state = new State(x);
        int undone = 0;
        while (undone < 50 && state.row("undo", x.undo()) >= 0) {
            state.row("time", x.count(6));
            state.row("wax", x.rule(0));
            state.row("heat", x.rule(1));
            state.row("waxed", x.all(7));
            undone++;
        }
        state.kingdom();
        state.row("back", x.back());
        state.kingdom();
        state.log();
        return state.rows;
    }

    private int row(String what, int answer) {
        rows.add(what + " " + answer);
        return answer;
    }

    private void counts() {
        for (int what = 0; what <= 11; what++) {
            row("count(" + what + ")", x.count(what));
        }
        for (int sort = 0; sort <= 2; sort++) {
            row("fault(" + sort + ")", x.fault(sort));
        }
    }

    private void kingdom() {
        for (int what = 0; what <= 2; what++) {
            row("rule(" + what + ")", x.rule(what));
        }
        for (int thing = 0; thing < x.count(0); thing++) {
            for (int what = 0; what <= 6; what++) {
                row("thing(" + thing + ", " + what + ")", x.thing(thing, what));
            }
        }
        for (int ring = 0; ring < x.count(1); ring++) {
            row("ring(" + ring + ", 0)", x.ring(ring, 0));
            row("ring(" + ring + ", 1)", x.ring(ring, 1));
        }
        row("forged", x.all(8));
        row("shame", x.count(7));
        row("time", x.count(6));
    }

    /** The latest rows and the oldest ones, which drop out first. */
    private void log() {
        int many = row("log", x.count(10));
        for (int i = 0; i < many; i++) {
            if (i < ROWS_OF_LOG || i >= many - ROWS_OF_LOG) {
                for (int what = 0; what <= 2; what++) {
                    row("log(" + i + ", " + what + ")", x.log(i, what));
                }
            }
        }
    }

    private void knowledge() {
        int many = row("who(-1)", x.who(-1));
        for (int i = 0; i < many; i++) {
            row("who(" + i + ")", x.who(i));
        }
        row("ask", x.ask());
    }

    private void reigns() {
        for (int reign = 0; reign < x.count(3); reign++) {
            for (int what = 0; what <= 2; what++) {
                row("step(" + reign + ", 0, " + what + ")", x.step(reign, 0, what));
            }
        }
    }
}
