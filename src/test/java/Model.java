import java.util.ArrayList;
import java.util.List;

/** The KINGDOM once more, by plain lists and copies: what is apart is tried out on a copy, month by month. */
final class Model {
    static final class Thing {
        int owner;
        int hard = 15;
        int deep = 3;
        int sun = 2;
        int wax = 1;
        List<Boolean> knows = new ArrayList<>();
    }

    int wax = 20;
    int heat = 10;
    int bees = 2;
    int time;
    int shame;
    int forged;
    List<Thing> things = new ArrayList<>();
    List<int[]> rings = new ArrayList<>();
    List<int[]> log = new ArrayList<>();
    List<Model> before = new ArrayList<>();
    Laws law;

    Model copy() {
        Model m = new Model();
        m.wax = wax;
        m.heat = heat;
        m.bees = bees;
        m.time = time;
        m.shame = shame;
        m.forged = forged;
        for (Thing t : things) {
            Thing u = new Thing();
            u.owner = t.owner;
            u.hard = t.hard;
            u.deep = t.deep;
            u.sun = t.sun;
            u.wax = t.wax;
            u.knows = new ArrayList<>(t.knows);
            m.things.add(u);
        }
        for (int[] r : rings) {
            m.rings.add(r.clone());
        }
        m.log = new ArrayList<>(log);
        m.law = law;
        return m;
    }

    void become(Model m) {
        Model c = m.copy();
        wax = c.wax;
        heat = c.heat;
        time = c.time;
        shame = c.shame;
        forged = c.forged;
        things = c.things;
        rings = c.rings;
        log = c.log;
    }

    void keep(Model was) {
        before.add(was);
        if (before.size() > 40) {
            before.remove(0);
        }
    }

    int undo() {
        if (before.isEmpty()) {
            return -1;
        }
        become(before.remove(before.size() - 1));
        return before.size();
    }

    int warmth() {
        int month = time % 12;
        return heat + 2 * (month <= 6 ? month : 12 - month);
    }

    int holds(int i) {
        Thing t = things.get(i);
        long worth = law == null ? t.hard + 2 * t.wax - t.sun
            : law.worth(t.hard, t.wax, t.sun, time % 12, t.deep, rings.get(t.owner)[0]);
        return (int) (worth < 0 ? 0 : worth > 99 ? 99 : worth);
    }

    boolean isThing(int i) {
        return i >= 0 && i < things.size();
    }

    boolean isRing(int i) {
        return i >= 0 && i < rings.size();
    }

    boolean isSealed(int i) {
        return isThing(i) && things.get(i).wax > 0;
    }

    /** Which MELTED. */
    int month() {
        List<Integer> melting = new ArrayList<>();
        for (int i = 0; i < things.size(); i++) {
            if (isSealed(i) && warmth() > holds(i)) {
                melting.add(i);
            }
        }
        int bits = 0;
        for (int i : melting) {
            Thing t = things.get(i);
            t.wax = 0;
            if (t.knows.contains(false)) {
                shame += t.deep;
            }
            for (int r = 0; r < rings.size(); r++) {
                t.knows.set(r, true);
            }
            bits += 1 << i;
        }
        log.add(new int[] {warmth(), bits, shame});
        wax = Math.min(999, wax + bees);
        time++;
        return bits;
    }

    int act(int kind, int a, int b) {
        Model was = copy();
        int answer = tries(kind, a, b);
        if (answer != -1) {
            keep(was);
        }
        return answer;
    }

    int tries(int kind, int a, int b) {
        if (kind == 0) {
            return Integer.bitCount(month());
        }
        if (kind == 5) {
            if (a < 0 || a > 40 || a == heat) {
                return -1;
            }
            int was = heat;
            heat = a;
            return was;
        }
        if (!isThing(a)) {
            return -1;
        }
        Thing t = things.get(a);
        switch (kind) {
            case 1:
                if (b < 1 || b > 9 || t.wax + b > 9 || wax < b) {
                    return -1;
                }
                wax -= b;
                t.wax += b;
                return t.wax;
            case 2:
                return pry(t, b);
            case 3:
                if (t.wax == 0) {
                    return -1;
                }
                wax = Math.min(999, wax + t.wax);
                t.wax = 0;
                return wax;
            default:
                if (b < 0 || b > 9 || b == t.sun) {
                    return -1;
                }
                int was = t.sun;
                t.sun = b;
                return was;
        }
    }

    private int pry(Thing t, int ring) {
        if (!isRing(ring) || t.owner == ring || t.wax == 0) {
            return -1;
        }
        t.knows.set(ring, true);
        int[] r = rings.get(ring);
        if (r[0] >= 2 * t.wax) {
            forged++;
            return 1;
        }
        t.wax = 0;
        r[0] = Math.max(0, r[0] - 1);
        r[1] = Math.min(9, r[1] + 1);
        return 0;
    }

    /** Whether this one MELTS in so many MONTHS that are passed on a copy. */
    boolean melts(int i, int n) {
        return meltsAt(i, n) > 0;
    }

    int meltsAt(int i, int n) {
        Model m = copy();
        for (int j = 1; j <= n; j++) {
            if ((m.month() >> i & 1) != 0) {
                return j;
            }
        }
        return 0;
    }

    int lasts(int i) {
        if (!isThing(i)) {
            return -1;
        }
        int at = meltsAt(i, 60);
        return things.get(i).wax == 0 ? 0 : at == 0 ? -1 : at;
    }

    int need(int i, int n) {
        if (!isSealed(i)) {
            return 0;
        }
        for (int more = 0; things.get(i).wax + more <= 9; more++) {
            Model m = copy();
            m.things.get(i).wax += more;
            if (!m.melts(i, n)) {
                return more;
            }
        }
        return -1;
    }

    int least(int set, int n, int thing) {
        int sum = 0;
        if (set < 1 || set >= 1 << things.size() || n < 1 || n > 24) {
            return -1;
        }
        if (thing != -1 && (!isThing(thing) || (set >> thing & 1) == 0)) {
            return -1;
        }
        for (int i = 0; i < things.size(); i++) {
            if ((set >> i & 1) != 0) {
                int need = need(i, n);
                if (need < 0) {
                    return -1;
                }
                sum += need;
            }
        }
        return thing == -1 ? sum : need(thing, n);
    }

    int pack(int n, int what) {
        int best = 0;
        int most = 0;
        for (int set = 0; set < 1 << things.size(); set++) {
            int cost = 0;
            int depth = 0;
            for (int i = 0; i < things.size(); i++) {
                if ((set >> i & 1) != 0) {
                    int need = need(i, n);
                    cost += need < 0 || !isSealed(i) ? 10000 : need;
                    depth += things.get(i).deep;
                }
            }
            if (cost <= wax && depth > most) {
                best = set;
                most = depth;
            }
        }
        return what == 0 ? best : most;
    }

    int order(int what) {
        Model m = copy();
        StringBuilder row = new StringBuilder();
        for (int j = 0; j < 24; j++) {
            int bits = m.month();
            for (int i = 0; i < things.size(); i++) {
                row.append((bits >> i & 1) != 0 ? "" + i : "");
            }
        }
        return what == 1 ? row.length() : row.length() == 0 ? -1 : Integer.parseInt(row.toString());
    }

    private int bestRow;
    private int bestDepth;

    int dealt(int n, int what) {
        List<Integer> suns = new ArrayList<>();
        for (Thing t : things) {
            suns.add(t.sun);
        }
        suns.sort(null);
        bestDepth = Integer.MAX_VALUE;
        deal(new ArrayList<>(), suns, n);
        return what == 0 ? bestRow : bestDepth;
    }

    private void deal(List<Integer> row, List<Integer> suns, int n) {
        if (row.size() < things.size()) {
            for (int i = 0; i < things.size(); i++) {
                if (!row.contains(i)) {
                    row.add(i);
                    deal(row, suns, n);
                    row.remove(row.size() - 1);
                }
            }
            return;
        }
        Model m = copy();
        int number = 0;
        for (int place = 0; place < row.size(); place++) {
            m.things.get(row.get(place)).sun = suns.get(place);
            number = number * 10 + row.get(place);
        }
        int depth = 0;
        for (int j = 0; j < n; j++) {
            int bits = m.month();
            for (int i = 0; i < things.size(); i++) {
                depth += (bits >> i & 1) != 0 ? things.get(i).deep : 0;
            }
        }
        if (depth < bestDepth) {
            bestDepth = depth;
            bestRow = number;
        }
    }

    int odds(int i, int n, int chance) {
        if (!isThing(i) || n < 0 || n > 12 || chance < 0 || chance > 100) {
            return -1;
        }
        long left = isSealed(i) ? 1000000000L : 0;
        Model m = copy();
        for (int j = 0; j < n; j++) {
            long hotter = left * chance / 100;
            long cooler = left - hotter;
            m.things.get(i).wax = things.get(i).wax;
            int holds = m.holds(i);
            left = (m.warmth() + 5 > holds ? 0 : hotter) + (m.warmth() > holds ? 0 : cooler);
            m.month();
        }
        return (int) left;
    }

    int harden(int i, int n) {
        if (!isSealed(i) || n < 1 || n > 24) {
            return -1;
        }
        for (int more = 0; more <= 40; more++) {
            Model m = copy();
            m.things.get(i).hard += more;
            if (!m.melts(i, n)) {
                return more;
            }
        }
        return -1;
    }

    List<Integer> who(List<int[]> notes) {
        List<Integer> fits = new ArrayList<>();
        for (int code = 0; code < 100; code++) {
            Model m = copy();
            if (code != 99) {
                if (!isThing(code / 10) || !isRing(code % 10) || things.get(code / 10).knows.get(code % 10)) {
                    continue;
                }
                m.things.get(code / 10).knows.set(code % 10, true);
            }
            boolean all = true;
            for (int[] note : notes) {
                all &= m.things.get(note[1]).knows.get(note[0]) == (note[2] == 1);
            }
            if (all) {
                fits.add(code);
            }
        }
        return fits;
    }

    int ask(List<int[]> notes) {
        List<Integer> fits = who(notes);
        int best = -1;
        int least = Integer.MAX_VALUE;
        for (int code = 0; code < 100 && !fits.isEmpty(); code++) {
            if (isThing(code / 10) && isRing(code % 10)) {
                int yes = 0;
                for (int fit : fits) {
                    yes += fit == code || things.get(code / 10).knows.get(code % 10) ? 1 : 0;
                }
                int apart = Math.abs(yes - (fits.size() - yes));
                if (apart < least) {
                    least = apart;
                    best = code;
                }
            }
        }
        return best;
    }

    int game(int one, int other, int thing, int x, int y, int what) {
        boolean bad = !isRing(one) || !isRing(other) || one == other || !isSealed(thing) || (x | y | what) >> 1 != 0;
        if (bad || things.get(thing).owner == one || things.get(thing).owner == other) {
            return -1000000;
        }
        Model m = copy();
        int[] has = {0, 0};
        int deep = things.get(thing).deep;
        int part = x + y == 2 ? deep / 2 : deep;
        if (x == 1) {
            has[0] = part - (m.tries(2, thing, one) == 0 ? 3 : 0);
        }
        if (y == 1) {
            has[1] = part - (m.tries(2, thing, other) == 0 ? 3 : 0);
        }
        return has[what];
    }
}
