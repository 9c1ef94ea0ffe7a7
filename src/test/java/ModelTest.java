import java.util.ArrayList;
import java.util.List;

/** Drawn towns and days: every answer is compared with that of the slow model. */
public final class ModelTest {
    /** An object is used for 512 calls at most: of these some feed the texts, and one round asks less than 20. */
    private static final int MOST_CALLS = 490;

    private final Draw draw;
    private final Model model = new Model();
    private final List<String> texts = new ArrayList<>();
    private ForgetBread x = new ForgetBread();
    private int calls;
    private int facts;
    private int people;

    private ModelTest(int seed) {
        draw = new Draw(seed);
    }

    public static void main(String[] args) {
        int runs = args.length > 0 ? Integer.parseInt(args[0]) : 250;
        int first = args.length > 1 ? Integer.parseInt(args[1]) : 0;
        for (int seed = first; seed < first + runs && !Kit.failed(); seed++) {
            new ModelTest(seed).run(seed);
        }
        Kit.close();
    }

    private void run(int seed) {
        String town = draw.town();
        ModelText read = new ModelText(0, town);
        Kit.due("seed " + seed + " town fault", read.fault, 0);
        Kit.due("seed " + seed + " town", Kit.text(x, 0, -1, town), 0);
        model.towns.add(read.town);
        facts = read.town.facts;
        people = read.town.people.size();
        texts.add(town);
        for (int day = 0; day < 3; day++) {
            String text = day(day);
            texts.add(text);
            ModelText acts = new ModelText(1, text);
            Kit.due("seed " + seed + " day fault", acts.fault, 0);
            Kit.due("seed " + seed + " day", Kit.text(x, 1, -1, text), day);
            model.days.add(acts.acts);
        }
        calls = MOST_CALLS;
        for (int i = 0; i < 380; i++) {
            if (calls >= MOST_CALLS) {
                tellAnew();
            }
            ask(i);
        }
        if (Kit.failed()) {
            System.out.println("seed " + seed + ":\n" + String.join("\n", texts));
        }
    }

    private void tellAnew() {
        x = new ForgetBread();
        calls = 0;
        for (int i = 0; i < texts.size(); i++) {
            Kit.due("told anew", Kit.text(x, i == 0 ? 0 : 1, -1, texts.get(i)), i == 0 ? 0 : i - 1);
            calls += 3 + (texts.get(i).length() + 19) / 20;
        }
    }

    /** A day that can mostly be, to its end. */
    private String day(int number) {
        String best = "";
        for (int tries = 0; tries < 40; tries++) {
            String text = draw.day(facts, people);
            Model alone = new Model();
            alone.towns.add(model.towns.get(0));
            ModelText read = new ModelText(1, text);
            if (read.fault != 0 || text.length() > 600) {
                continue;
            }
            alone.days.add(read.acts);
            if (number == 2 || alone.stop(0, 0) >= read.acts.size() && read.acts.size() > 2) {
                return text;
            }
            best = best.isEmpty() && read.acts.size() < 12 ? text : best;
        }
        return best;
    }

    private int day;
    private int n;
    private int p;
    private int f;
    private String at;

    private void due(String call, int got, int want) {
        calls++;
        Kit.due(call + at, got, want);
    }

    private void ask(int i) {
        int t = draw.once(40) ? draw.about(1) : 0;
        day = draw.once(25) ? draw.about(3) : draw.below(4) - 1;
        int most = model.stop(0, day);
        n = draw.once(25) ? draw.about(1) : most < 1 ? 0 : draw.below(most + 1);
        p = draw.about(people);
        f = draw.about(facts);
        at = " (" + t + ", " + day + ", " + n + ", " + p + ", " + f + ")";
        switch (i % 10) {
            case 0: askStates(t); break;
            case 1: askHours(t); break;
            case 2: askForgetting(t); break;
            case 3: askRows(t); break;
            case 4: askBest(t); break;
            case 5: askLearning(t); break;
            case 6: askWays(t); break;
            case 7: askKeeping(t); break;
            case 8: askGuess(t); break;
            default: askTown(t); break;
        }
    }

    private void askStates(int t) {
        due("stop", x.stop(t, day), model.stop(t, day));
        due("when", x.when(t, day, p, f), model.when(t, day, p, f));
        for (int k = 0; k < 4; k++) {
            int what = draw.once(3) ? draw.about(8) : 10 * (1 + draw.below(3)) + draw.about(5);
            due("state " + what, x.state(t, day, n, what), model.state(t, day, n, what));
        }
        int what = draw.about(4);
        due("whole " + what, x.whole(t, day, n, what), model.whole(t, day, n, what));
    }

    private void askHours(int t) {
        Model.State now = model.one(t, day, n, p);
        due("evening", x.evening(t, day, n, p), now == null ? -1 : now.evening().minds[p]);
        due("finds", x.finds(t, day, n, p), now == null ? -1 : now.evening().minds[p] & ~now.minds[p]);
        due("again", x.again(t, day, n, p, f), model.again(t, day, n, p, f));
        due("known", x.known(t, day, n, p, f), model.known(t, day, n, p, f));
        Model.State all = model.state(t, day, n);
        due("spread", x.spread(t, day, n, f), all == null || !all.isFact(f) ? -1 : all.evening().whoHas(f));
        int seed = draw.random.nextInt();
        int what = draw.once(2) ? draw.about(4) : 10 + draw.about(people);
        due("days " + seed + " " + what, x.days(t, day, n, seed, what), model.days(t, day, n, seed, what));
    }

    private void askForgetting(int t) {
        int kind = draw.about(3);
        Model.State now = model.one(t, day, n, p);
        int want = -1;
        if (now != null && now.isFact(f) && now.has(p, f) && kind >= 0 && kind < 3) {
            want = now.minds[p] & ~now.town.forget(now.minds[p], f, kind);
        }
        due("gone " + kind, x.gone(t, day, n, p, f, kind), want);
        due("gain " + kind, x.gain(t, day, n, p, f, kind), model.gain(t, day, n, p, f, kind));
        due("relief", x.relief(t, day, n, p, false), model.relief(t, day, n, p, false));
        due("relief kind", x.relief(t, day, n, p, true), model.relief(t, day, n, p, true));
        int what = draw.about(4);
        due("roots " + what, x.roots(t, day, n, p, what), model.roots(t, day, n, p, what));
        int k = draw.about(3);
        int some = draw.set(facts) & (now == null || draw.once(20) ? -1 : now.minds[p]);
        due("order " + some + " " + kind + " " + k, x.order(t, day, n, p, some, kind, k),
                model.order(t, day, n, p, some, kind, k));
    }

    private void askRows(int t) {
        int gone = draw.set(facts);
        int kept = draw.set(facts) & draw.set(facts) & (draw.once(20) ? -1 : ~gone);
        String sets = gone + " " + kept;
        due("keeps " + sets, x.keeps(t, day, n, p, gone, kept), model.keeps(t, day, n, p, gone, kept));
        for (int k = 0; k < 3; k++) {
            int what = k == 0 ? 0 : k == 1 ? 10 + draw.about(3) : draw.about(14);
            due("row " + sets + " " + what, x.row(t, day, n, p, gone, kept, what),
                    model.row(t, day, n, p, gone, kept, what));
            due("safe " + what, x.safe(t, day, n, p, f, what), model.safe(t, day, n, p, f, what));
        }
    }

    private void askBest(int t) {
        int m = draw.about(4);
        for (int k = 0; k < 3; k++) {
            int what = k == 0 ? draw.about(13) : k == 1 ? 1 : 10 + draw.about(m + 1);
            due("best " + m + " " + what, x.best(t, day, n, p, m, what), model.best(t, day, n, p, m, what));
        }
        due("gap " + m, x.gap(t, day, n, p, m), model.gap(t, day, n, p, m));
        Model.State now = model.one(t, day, n, p);
        int what = draw.about(4);
        int want = -100000;
        if (now != null && what >= 0 && what < 3) {
            want = what == 0 ? now.town.worth(now.minds[p]) : 0;
            for (int s = 0; what > 0 && s < 6; s++) {
                var of = what == 1 ? now.town.skills : now.town.hurts;
                want |= s < of.size() && (of.get(s)[1] & ~now.minds[p]) == 0 ? 1 << s : 0;
            }
        }
        due("worth " + what, x.worth(t, day, n, p, what), want);
    }

    private void askLearning(int t) {
        int some = draw.set(facts);
        int other = draw.about(people);
        int but = draw.about(facts);
        due("ask", x.ask(t, day, n, p, f, false), model.ask(t, day, n, p, f, false));
        due("ask whom", x.ask(t, day, n, p, f, true), model.ask(t, day, n, p, f, true));
        due("note " + but, x.note(t, day, n, p, f, but), model.note(t, day, n, p, f, but));
        due("trial " + some, x.trial(t, day, n, p, some, f), model.trial(t, day, n, p, some, f));
        due("teach " + other, x.teach(t, day, n, p, other), model.teach(t, day, n, p, other));
        Model.State now = model.one(t, day, n, p);
        boolean can = now != null && Model.areFacts(now, some);
        due("honest " + some, x.honest(t, day, n, p, some), can ? some & ~now.minds[p] : -1);
    }

    private void askWays(int t) {
        var ways = model.ways(t, day, n, p, f);
        due("ways", x.ways(t, day, n, p, f), ways == null ? -1 : ways.size());
        due("leans", x.leans(t, day, n, p, f, false), model.leans(t, day, n, p, f, false));
        due("needs", x.leans(t, day, n, p, f, true), model.leans(t, day, n, p, f, true));
    }

    private void askKeeping(int t) {
        due("pact", x.pact(t, day, n, p, f), model.pact(t, day, n, p, f));
        due("stay", x.stay(t, day, n, p, f), model.stay(t, day, n, p, f));
        due("shut", x.shut(t, day, n, p, f), model.shut(t, day, n, p, f));
    }

    private void askGuess(int t) {
        int skills = model.towns.get(0).skills.size();
        int can = draw.set(skills) & draw.below(64);
        int cannot = draw.set(skills) & (draw.once(20) ? -1 : ~can);
        for (int what = 0; what < 3; what++) {
            due("guess " + can + " " + cannot + " " + what, x.guess(t, day, n, p, can, cannot, what),
                    model.guess(t, day, n, p, can, cannot, what));
        }
    }

    private void askTown(int t) {
        Model.Town of = model.town(t);
        int some = draw.set(facts);
        boolean can = of != null && some >= 0 && some < 1 << of.facts;
        due("reach " + some, x.reach(t, some), can ? of.close(some) : -1);
        due("twins", x.twins(t, f), model.twins(t, f));
    }
}
