import java.util.ArrayList;
import java.util.List;
import java.util.Random;

/** Runs of calls made at random, answered by WaxReign as by the Model. */
public final class ModelTest {
    private static final Check CHECK = new Check("ModelTest");

    private final Random random;
    private final WaxReign x = new WaxReign();
    private final Model model = new Model();
    private final List<Laws> laws = new ArrayList<>();
    private final List<List<int[]>> reigns = new ArrayList<>();
    private final List<int[]> notes = new ArrayList<>();
    private Model image;
    private int knives;
    private String what;

    private ModelTest(long seed) {
        random = new Random(seed);
        what = "seed " + seed;
    }

    public static void main(String[] args) {
        for (long seed = 0; seed < 1200; seed++) {
            new ModelTest(seed).run();
        }
        CHECK.ends();
    }

    private void run() {
        tellsKingdom();
        for (int i = random.nextInt(3); i > 0; i--) {
            Laws law = Laws.random(random);
            String text = law.text(random);
            if (text.length() <= 240) {
                same("law " + text, Check.put(x, 1, text), laws.size());
                laws.add(law);
            }
        }
        for (int i = random.nextInt(5); i > 0; i--) {
            tellsReign();
        }
        for (int call = 0; call < 120; call++) {
            if (random.nextInt(3) == 0) {
                acts();
            } else {
                asks();
            }
        }
    }

    private void same(String call, long got, long due) {
        CHECK.same(what + ": " + call, got, due);
    }

    private int upTo(int most) {
        return random.nextInt(most + 1);
    }

    /** Mostly one of so many; now and then one that is not. */
    private int oneOf(int many) {
        return random.nextInt(12) == 0 ? random.nextInt(many + 4) - 2 : random.nextInt(many);
    }

    private void tellsKingdom() {
        int rings = 1 + upTo(4);
        int many = 1 + upTo(random.nextInt(8) == 0 ? 6 : 3);
        StringBuilder text = new StringBuilder();
        if (random.nextBoolean()) {
            model.wax = upTo(30);
            model.heat = upTo(20);
            model.bees = upTo(9);
            text.append("sw" + model.wax + "b" + model.bees + "h" + model.heat + ";");
        }
        for (int i = 0; i < many; i++) {
            Model.Thing t = new Model.Thing();
            t.owner = upTo(rings - 1);
            t.hard = 5 + upTo(25);
            t.deep = upTo(9);
            t.sun = upTo(9);
            text.append("th" + t.hard + "o" + t.owner + "s" + t.sun + "d" + t.deep);
            if (random.nextBoolean()) {
                t.wax = random.nextInt(4) == 0 ? upTo(9) : upTo(3);
                text.append("w" + t.wax);
            }
            for (int r = 0; r < rings; r++) {
                t.knows.add(r == t.owner);
            }
            text.append(";");
            model.things.add(t);
        }
        for (int r = 0; r < rings; r++) {
            int skill = upTo(9);
            model.rings.add(new int[] {skill, 0});
            text.append(r > 0 ? ";rk" : "rk").append(skill);
        }
        same("kingdom " + text, Check.put(x, 0, text.toString()), many);
    }

    private void tellsReign() {
        List<int[]> steps = new ArrayList<>();
        StringBuilder text = new StringBuilder();
        int many = 1 + upTo(7);
        for (int i = 0; i < many; i++) {
            int kind = upTo(3);
            int a = random.nextInt(9) == 0 ? upTo(9) : upTo(model.things.size() - 1);
            int b = kind == 2 ? upTo(model.rings.size() - 1) : upTo(4);
            steps.add(new int[] {kind, a, b});
            text.append(i > 0 ? ";" : "").append("mspo".charAt(kind));
            text.append(kind == 0 ? "" : "" + a).append(kind == 1 || kind == 2 ? "" + b : "");
        }
        int number = Check.put(x, 2, text.toString());
        same("reign " + text, number, reigns.size() < 4 ? reigns.size() : -1);
        if (number >= 0) {
            reigns.add(steps);
        }
    }

    private void acts() {
        int a = oneOf(model.things.size());
        int b = random.nextInt(11) - 1;
        switch (random.nextInt(12)) {
            case 0:
                same("month", x.month(), model.act(0, 0, 0));
                break;
            case 1:
                same("seal " + a + " " + b, x.seal(a, b), model.act(1, a, b));
                break;
            case 2:
                b = oneOf(model.rings.size());
                same("pry " + a + " " + b, x.pry(a, b), model.act(2, a, b));
                break;
            case 3:
                same("open " + a, x.open(a), model.act(3, a, 0));
                break;
            case 4:
                same("carry " + a + " " + b, x.carry(a, b), model.act(4, a, b));
                break;
            case 5:
                int heat = upTo(random.nextInt(6) == 0 ? 45 : 15);
                same("heat " + heat, x.heat(heat), model.act(5, heat, 0));
                break;
            case 6:
                years();
                break;
            case 7:
                same("undo", x.undo(), model.undo());
                break;
            case 8:
                performs();
                break;
            case 9:
                imagesOrGoesBack();
                break;
            case 10:
                int law = random.nextInt(laws.size() + 1) - 1;
                same("law " + law, x.law(law) ? 1 : 0, 1);
                model.law = law < 0 ? null : laws.get(law);
                break;
            default:
                notes();
                break;
        }
        compares();
    }

    private void years() {
        int v = upTo(9);
        same("knives", x.knives(v) ? 1 : 0, v == knives ? 0 : 1);
        knives = v;
        long seed = random.nextLong();
        int n = 1 + upTo(random.nextInt(5) == 0 ? 59 : 4);
        long[] drawn = {seed};
        for (int i = 0; i < n; i++) {
            Model was = model.copy();
            model.heat += draw(drawn, 10) >= 5 ? 1 : -1;
            model.heat = Math.max(0, Math.min(40, model.heat));
            if (draw(drawn, 10) < knives) {
                int thing = draw(drawn, model.things.size());
                int ring = draw(drawn, model.rings.size());
                model.tries(2, thing, ring);
            }
            model.month();
            model.keep(was);
        }
        same("years " + n, x.years(n, seed), model.time);
    }

    private static int draw(long[] x, int j) {
        x[0] = x[0] * 6364136223846793005L + 1442695040888963407L;
        return (int) ((x[0] >>> 33) % j);
    }

    private void performs() {
        int reign = oneOf(4);
        boolean told = reign >= 0 && reign < reigns.size();
        Model apart = model.copy();
        int done = told ? 0 : -1;
        while (told && done < reigns.get(reign).size()) {
            int[] step = reigns.get(reign).get(done);
            if (apart.tries(step[0], step[1], step[2]) == -1) {
                break;
            }
            done++;
        }
        same("run " + reign, x.run(reign, 0), !told ? -1000000 : done == reigns.get(reign).size() ? -1 : done);
        same("shame of run " + reign, x.run(reign, 1), told ? apart.shame - model.shame : -1000000);
        compares();
        same("perform " + reign, x.perform(reign), done);
        for (int i = 0; i < done; i++) {
            int[] step = reigns.get(reign).get(i);
            model.act(step[0], step[1], step[2]);
        }
    }

    private void imagesOrGoesBack() {
        if (random.nextBoolean()) {
            same("image", x.image(), model.time);
            image = model.copy();
        } else {
            same("back", x.back(), image == null ? -1 : image.time);
            if (image != null) {
                model.become(image);
                model.before.clear();
            }
        }
    }

    private void notes() {
        int ring = oneOf(model.rings.size());
        int thing = oneOf(model.things.size());
        boolean knows = random.nextBoolean();
        boolean can = model.isRing(ring) && model.isThing(thing) && notes.size() < 10;
        if (can && random.nextInt(4) > 0) {
            knows = model.things.get(thing).knows.get(ring);
        }
        same("noted", x.noted(ring, thing, knows), can ? notes.size() + 1 : -1);
        if (can) {
            notes.add(new int[] {ring, thing, knows ? 1 : 0});
        }
    }

    private void compares() {
        same("wax", x.rule(0), model.wax);
        same("heat", x.rule(1), model.heat);
        same("time", x.count(6), model.time);
        same("shame", x.count(7), model.shame);
        same("forged", x.all(8), model.forged);
        same("acts", x.count(11), model.before.size());
        int waxed = 0;
        int sealed = 0;
        int secrets = 0;
        for (int i = 0; i < model.things.size(); i++) {
            Model.Thing t = model.things.get(i);
            int bits = 0;
            for (int r = 0; r < model.rings.size(); r++) {
                bits += t.knows.get(r) ? 1 << r : 0;
            }
            int[] due = {t.owner, t.hard, t.deep, t.sun, t.wax, bits, model.holds(i)};
            for (int part = 0; part < due.length; part++) {
                same("thing " + i + " " + part, x.thing(i, part), due[part]);
            }
            same("spare " + i, x.spare(i), t.wax == 0 ? -1000000 : model.holds(i) - model.warmth());
            waxed += t.wax;
            sealed += t.wax > 0 ? 1 << i : 0;
            secrets += Integer.bitCount(bits) == 1 ? 1 << i : 0;
        }
        same("sealed", x.all(5), sealed);
        same("secrets", x.all(6), secrets);
        same("waxed", x.all(7), waxed);
        comparesRings();
        comparesLog();
    }

    private void comparesRings() {
        for (int r = 0; r < model.rings.size(); r++) {
            int known = 0;
            int tells = 0;
            for (int i = 0; i < model.things.size(); i++) {
                Model.Thing t = model.things.get(i);
                known += t.knows.get(r) ? 1 << i : 0;
                tells += t.knows.get(r) && t.owner != r ? t.deep : 0;
            }
            same("skill " + r, x.ring(r, 0), model.rings.get(r)[0]);
            same("scars " + r, x.ring(r, 1), model.rings.get(r)[1]);
            same("known " + r, x.known(r), known);
            same("tells " + r, x.tells(r), tells);
        }
    }

    private void comparesLog() {
        int length = Math.min(60, model.log.size());
        same("log", x.count(10), length);
        for (int i = 0; i < length; i++) {
            int[] due = model.log.get(model.log.size() - 1 - i);
            for (int part = 0; part < 3; part++) {
                same("log " + i + " " + part, x.log(i, part), due[part]);
            }
        }
        same("log no more", x.log(length, 0), -1);
    }

    private void asks() {
        int a = oneOf(model.things.size());
        int n = oneOf(24) + 1;
        boolean ahead = n >= 1 && n <= 24;
        int part = upTo(1);
        switch (random.nextInt(11)) {
            case 0:
                same("lasts " + a, x.lasts(a), model.lasts(a));
                break;
            case 1:
                int set = random.nextInt((1 << model.things.size()) + 1);
                int of = random.nextBoolean() ? -1 : a;
                same("least " + set + " " + n + " " + of, x.least(set, n, of), model.least(set, n, of));
                break;
            case 2:
                if (model.things.size() < 5) {
                    same("pack " + n + " " + part, x.pack(n, part), ahead ? model.pack(n, part) : -1);
                }
                break;
            case 3:
                same("order " + part, x.order(part), model.order(part));
                break;
            case 4:
                if (model.things.size() < 5 || random.nextInt(20) == 0) {
                    same("dealt " + n + " " + part, x.dealt(n, part), ahead ? model.dealt(n, part) : -1);
                }
                break;
            case 5:
                int months = oneOf(13);
                int chance = oneOf(101);
                same("odds " + a + " " + months + " " + chance, x.odds(a, months, chance), model.odds(a, months, chance));
                break;
            case 6:
                same("harden " + a + " " + n, x.harden(a, n), model.harden(a, n));
                break;
            case 7:
                comparesWho();
                break;
            case 8:
                comparesGames();
                break;
            case 9:
                comparesOpeners(a);
                break;
            default:
                comparesForemost();
                break;
        }
    }

    private void comparesWho() {
        List<Integer> fits = model.who(notes);
        same("who", x.who(-1), fits.size());
        for (int i = 0; i < fits.size(); i++) {
            same("who " + i, x.who(i), fits.get(i));
        }
        same("who no more", x.who(fits.size()), -1);
        same("ask", x.ask(), model.ask(notes));
    }

    private void comparesGames() {
        int one = oneOf(model.rings.size());
        int other = oneOf(model.rings.size());
        int thing = oneOf(model.things.size());
        List<Integer> rests = new ArrayList<>();
        for (int x1 = 0; x1 < 2; x1++) {
            for (int y = 0; y < 2; y++) {
                int first = model.game(one, other, thing, x1, y, 0);
                int second = model.game(one, other, thing, x1, y, 1);
                same("game first", x.game(one, other, thing, x1, y, 0), first);
                same("game second", x.game(one, other, thing, x1, y, 1), second);
                if (first >= model.game(one, other, thing, 1 - x1, y, 0) && second >= model.game(one, other, thing, x1, 1 - y, 1)) {
                    rests.add(10 * x1 + y);
                }
            }
        }
        boolean can = model.game(one, other, thing, 0, 0, 0) == 0;
        same("rests", x.rests(one, other, thing, -1), can ? rests.size() : -1);
        for (int i = 0; i < 5; i++) {
            same("rests " + i, x.rests(one, other, thing, i), can && i < rests.size() ? rests.get(i) : -1);
        }
    }

    private void comparesOpeners(int a) {
        int bits = model.isSealed(a) ? 0 : -1;
        for (int r = 0; bits >= 0 && r < model.rings.size(); r++) {
            bits += model.copy().tries(2, a, r) == 1 ? 1 << r : 0;
        }
        same("openers " + a, x.openers(a), bits);
    }

    private void comparesForemost() {
        int[] due = {-1, -1, -1, 0, 0};
        for (int i = model.things.size() - 1; i >= 0; i--) {
            if (model.isSealed(i)) {
                due[0] = due[0] < 0 || model.holds(i) <= model.holds(due[0]) ? i : due[0];
                due[1] = due[1] < 0 || model.things.get(i).deep >= model.things.get(due[1]).deep ? i : due[1];
                due[2] = due[2] < 0 || model.things.get(i).sun >= model.things.get(due[2]).sun ? i : due[2];
            }
        }
        for (int kind = 0; kind < 2; kind++) {
            due[3 + kind] = model.rings.size() - 1;
            for (int r = model.rings.size() - 1; r >= 0; r--) {
                if (model.rings.get(r)[kind] >= model.rings.get(due[3 + kind])[kind]) {
                    due[3 + kind] = r;
                }
            }
        }
        for (int kind = 0; kind < 5; kind++) {
            same("all " + kind, x.all(kind), due[kind]);
        }
        Model m = model.copy();
        int coolest = 0;
        for (int i = 0; i < 12; i++) {
            same("warmth " + i, x.warmth(i), m.warmth());
            coolest = m.warmth() < x.warmth(coolest) ? i : coolest;
            m.month();
        }
        same("coolest", x.all(9), coolest);
    }
}
