import java.util.ArrayList;
import java.util.Arrays;
import java.util.Comparator;
import java.util.List;
import java.util.function.IntPredicate;

/**
 * The document once more, as slow and as near to its words as can be: each "the fewest", "the most", "the
 * first" is found by going through all there are in the order that the document tells.
 */
final class Model {
    static final int NONE = -1;

    /** A town's text, read. */
    static final class Town {
        int facts = 6;
        int price = 4;
        final List<int[]> rules = new ArrayList<>();
        final List<int[]> people = new ArrayList<>();
        final List<int[]> signs = new ArrayList<>();
        final List<int[]> meets = new ArrayList<>();
        final List<int[]> skills = new ArrayList<>();
        final List<int[]> hurts = new ArrayList<>();

        int close(int set) {
            int now = set;
            while (true) {
                int next = now;
                for (int[] rule : rules) {
                    if ((rule[1] & next) == rule[1]) {
                        next |= 1 << rule[0];
                    }
                }
                if (next == now) {
                    return now;
                }
                now = next;
            }
        }

        int worth(int mind) {
            int sum = 0;
            for (int[] skill : skills) {
                sum += (skill[1] & mind) == skill[1] ? skill[0] : 0;
            }
            for (int[] hurt : hurts) {
                sum -= (hurt[1] & mind) == hurt[1] ? hurt[0] : 0;
            }
            return sum;
        }

        /** Closed parts, those of the most facts first, of these those by which the least number goes. */
        List<Integer> parts(int mind) {
            List<Integer> parts = new ArrayList<>();
            for (int set = 0; set < 1 << facts; set++) {
                if ((set & ~mind) == 0 && close(set) == set) {
                    parts.add(set);
                }
            }
            parts.sort(Comparator.comparingInt((Integer set) -> -Integer.bitCount(set))
                    .thenComparingInt(set -> mind & ~set));
            return parts;
        }

        int keeps(int mind, int gone, int kept) {
            for (int part : parts(mind)) {
                if ((part & gone) == 0 && (part & kept) == kept) {
                    return part;
                }
            }
            return NONE;
        }

        int forget(int mind, int fact, int kind) {
            if ((mind >> fact & 1) == 0) {
                return mind;
            }
            if (kind == 1) {
                return keeps(mind, 1 << fact, 0);
            }
            return kind == 0 ? whole(mind, fact) : late(mind, fact);
        }

        private int whole(int mind, int fact) {
            int gone = 1 << fact;
            for (int i = 0; i < 40; i++) {
                for (int[] rule : rules) {
                    if ((gone >> rule[0] & 1) != 0 && (rule[1] & mind) == rule[1]) {
                        gone |= rule[1];
                    }
                }
            }
            return mind & ~gone;
        }

        private int late(int mind, int fact) {
            int now = mind & ~(1 << fact);
            boolean goesOn = true;
            while (goesOn) {
                goesOn = false;
                for (int[] rule : rules) {
                    boolean gone = (mind >> rule[0] & 1) != 0 && (now >> rule[0] & 1) == 0;
                    if (gone && (rule[1] & now) == rule[1]) {
                        now &= ~Integer.highestOneBit(rule[1]);
                        goesOn = true;
                        break;
                    }
                }
            }
            return now;
        }
    }

    /** A state; what hours bring is told in it, too. */
    static final class State {
        final Town town;
        int hour = 0;
        int[] minds;
        int[] halves;
        int[] loaves;
        int news = 0;
        int busy = 0;
        int taught = 0;

        State(Town town) {
            this.town = town;
            int people = town.people.size();
            minds = new int[people];
            halves = new int[people];
            loaves = new int[people];
            for (int p = 0; p < people; p++) {
                minds[p] = town.close(town.people.get(p)[1]);
            }
        }

        State copy() {
            State other = new State(town);
            other.hour = hour;
            other.minds = minds.clone();
            other.halves = halves.clone();
            other.loaves = loaves.clone();
            return other;
        }

        boolean has(int p, int fact) {
            return (minds[p] >> fact & 1) != 0;
        }

        void learn(int p, int set) {
            minds[p] = town.close(minds[p] | set);
        }

        boolean isOne(int p) {
            return p >= 0 && p < minds.length;
        }

        boolean isFact(int f) {
            return f >= 0 && f < town.facts;
        }

        boolean act(int[] act) {
            if (act[0] == 6) {
                if (hour == 9) {
                    return false;
                }
                passHour(NONE, 0, 0);
                return true;
            }
            int fact = act[0] == 5 ? act[3] : act[2];
            if (!isOne(act[1]) || !isFact(fact) || (act[0] == 5 && !isOne(act[2]))) {
                return false;
            }
            if (act[0] == 4) {
                learn(act[1], 1 << fact);
                return true;
            }
            if (!has(act[0] == 5 ? act[2] : act[1], fact)) {
                return false;
            }
            if (act[0] == 5) {
                learn(act[1], 1 << fact);
                return true;
            }
            int before = minds[act[1]];
            minds[act[1]] = town.forget(before, fact, act[0] == 3 ? 1 : act[0]);
            loaves[act[1]]++;
            if (act[0] == 3) {
                halves[act[1]] |= before ^ minds[act[1]];
            }
            return true;
        }

        void passHour(int stayer, int stays, int shut) {
            int[] before = minds.clone();
            hour++;
            for (int p = 0; p < minds.length; p++) {
                int out = town.people.get(p)[2];
                boolean isOut = (out >> hour & 1) != 0 && !(p == stayer && (stays >> hour & 1) != 0);
                for (int[] sign : town.signs) {
                    if (isOut && sign[0] == hour && !has(p, sign[1])) {
                        news++;
                        learn(p, 1 << sign[1]);
                    }
                }
            }
            for (int m = 0; m < town.meets.size(); m++) {
                int[] meet = town.meets.get(m);
                if (meet[2] == hour && (shut >> m & 1) == 0 && has(meet[0], meet[3]) && !has(meet[1], meet[3])) {
                    news++;
                    taught |= 1 << m;
                    learn(meet[1], 1 << meet[3]);
                }
            }
            if (hour == 9) {
                for (int p = 0; p < minds.length; p++) {
                    learn(p, halves[p]);
                    halves[p] = 0;
                }
            }
            for (int p = 0; p < minds.length; p++) {
                if (Integer.bitCount(minds[p]) > Integer.bitCount(before[p])) {
                    busy |= 1 << hour;
                }
            }
        }

        State evening(int stayer, int stays, int shut) {
            State then = copy();
            while (then.hour < 9) {
                then.passHour(stayer, stays, shut);
            }
            return then;
        }

        State evening() {
            return evening(NONE, 0, 0);
        }

        int whoHas(int fact) {
            int who = 0;
            for (int p = 0; p < minds.length; p++) {
                who |= has(p, fact) ? 1 << p : 0;
            }
            return who;
        }

        int all() {
            int set = (1 << town.facts) - 1;
            for (int mind : minds) {
                set &= mind;
            }
            return set;
        }

        int any() {
            int set = 0;
            for (int mind : minds) {
                set |= mind;
            }
            return set;
        }

        int sum(int[] of) {
            return Arrays.stream(of).sum();
        }
    }

    final List<Town> towns = new ArrayList<>();
    final List<List<int[]>> days = new ArrayList<>();

    Town town(int town) {
        return town >= 0 && town < towns.size() ? towns.get(town) : null;
    }

    State state(int town, int day, int n) {
        if (town(town) == null || day < NONE || day >= days.size() || n < 0) {
            return null;
        }
        List<int[]> acts = day == NONE ? List.of() : days.get(day);
        if (n > acts.size()) {
            return null;
        }
        State now = new State(town(town));
        for (int i = 0; i < n; i++) {
            if (!now.act(acts.get(i))) {
                return null;
            }
        }
        return now;
    }

    State one(int town, int day, int n, int person) {
        State now = state(town, day, n);
        return now == null || !now.isOne(person) ? null : now;
    }

    /** Of all sets below a bound those of the fewest first, then by numbers: the first that is so. */
    static int fewest(int pool, IntPredicate so) {
        List<Integer> sets = new ArrayList<>();
        for (int set = 0; set <= pool; set++) {
            if ((set & ~pool) == 0) {
                sets.add(set);
            }
        }
        sets.sort(Comparator.comparingInt((Integer set) -> Integer.bitCount(set)).thenComparingInt(set -> set));
        for (int set : sets) {
            if (so.test(set)) {
                return set;
            }
        }
        return NONE;
    }

    int stop(int town, int day) {
        if (town(town) == null || day < 0 || day >= days.size()) {
            return NONE;
        }
        int n = 0;
        while (state(town, day, n + 1) != null) {
            n++;
        }
        return n;
    }

    int when(int town, int day, int person, int fact) {
        if (day == NONE || one(town, day, 0, person) == null || !state(town, day, 0).isFact(fact)) {
            return NONE;
        }
        for (int n = 0; n < stop(town, day); n++) {
            if (state(town, day, n).has(person, fact) && !state(town, day, n + 1).has(person, fact)) {
                return n;
            }
        }
        return NONE;
    }

    int state(int town, int day, int n, int what) {
        State now = state(town, day, n);
        if (now == null) {
            return -2;
        }
        if (what >= 10 && what < 40 && now.isOne(what % 10)) {
            int[] of = what < 20 ? now.minds : what < 30 ? now.halves : now.loaves;
            return of[what % 10];
        }
        switch (what) {
            case 0: return now.hour;
            case 1: return now.sum(now.loaves);
            case 2: return now.sum(now.loaves) * now.town.price;
            case 3: return now.all();
            case 4: return now.any();
            case 5: return state(town, NONE, 0).any() & ~now.any();
            case 6: return now.evening().news;
            default: return -2;
        }
    }

    /** A row of loaves by least, the first of the fewest, to a mind that is so; null: none. */
    static List<Integer> row(Town town, int mind, IntPredicate so) {
        for (int many = 0; many <= town.facts; many++) {
            List<Integer> row = row(town, mind, so, many, new int[11][1 << town.facts]);
            if (row != null) {
                return row;
            }
        }
        return null;
    }

    private static List<Integer> row(Town town, int mind, IntPredicate so, int many, int[][] inVain) {
        if (many == 0) {
            return so.test(mind) ? new ArrayList<>() : null;
        }
        if (inVain[many][mind] != 0) {
            return null;
        }
        for (int fact = 0; fact < town.facts; fact++) {
            if ((mind >> fact & 1) != 0) {
                List<Integer> row = row(town, town.forget(mind, fact, 1), so, many - 1, inVain);
                if (row != null) {
                    row.add(0, fact);
                    return row;
                }
            }
        }
        inVain[many][mind] = 1;
        return null;
    }

    static int tell(List<Integer> row, int what, int none) {
        if (row == null) {
            return none;
        }
        if (what == 0) {
            return row.size();
        }
        return what >= 10 && what - 10 < row.size() ? row.get(what - 10) : none;
    }

    static boolean areFacts(State now, int set) {
        return set >= 0 && set < 1 << now.town.facts;
    }

    int row(int town, int day, int n, int person, int gone, int kept, int what) {
        State now = one(town, day, n, person);
        if (now == null || !areFacts(now, gone) || !areFacts(now, kept)) {
            return NONE;
        }
        IntPredicate so = mind -> (mind & gone) == 0 && (mind & kept) == kept;
        return tell(row(now.town, now.minds[person], so), what, NONE);
    }

    int keeps(int town, int day, int n, int person, int gone, int kept) {
        State now = one(town, day, n, person);
        if (now == null || !areFacts(now, gone) || !areFacts(now, kept)) {
            return NONE;
        }
        return now.town.keeps(now.minds[person], gone, kept);
    }

    int safe(int town, int day, int n, int person, int fact, int what) {
        State now = one(town, day, n, person);
        if (now == null || !now.isFact(fact)) {
            return NONE;
        }
        IntPredicate so = mind -> {
            State then = now.copy();
            then.minds[person] = mind;
            return (mind >> fact & 1) == 0 && !then.evening().has(person, fact);
        };
        return tell(row(now.town, now.minds[person], so), what, NONE);
    }

    int again(int town, int day, int n, int person, int fact) {
        State now = one(town, day, n, person);
        if (now == null || !now.isFact(fact)) {
            return NONE;
        }
        State then = now.copy();
        while (!then.has(person, fact)) {
            if (then.hour == 9) {
                return NONE;
            }
            then.passHour(NONE, 0, 0);
        }
        return then.hour;
    }

    int known(int town, int day, int n, int person, int fact) {
        State now = one(town, day, n, person);
        if (now == null || !now.isFact(fact)) {
            return NONE;
        }
        State then = now.copy();
        int many = then.has(person, fact) ? 1 : 0;
        while (then.hour < 9) {
            then.passHour(NONE, 0, 0);
            many += then.has(person, fact) ? 1 : 0;
        }
        return many;
    }

    int best(int town, int day, int n, int person, int m, int what) {
        State now = one(town, day, n, person);
        if (now == null || m < 0 || m > 3) {
            return -100000;
        }
        List<List<Integer>> rows = new ArrayList<>();
        rows.add(new ArrayList<>());
        List<Integer> best = rows.get(0);
        for (int many = 0; many <= m; many++) {
            List<List<Integer>> longer = new ArrayList<>();
            for (List<Integer> row : rows) {
                int mind = behind(now, person, row);
                if (now.town.worth(mind) > now.town.worth(behind(now, person, best))) {
                    best = row;
                }
                for (int fact = 0; fact < now.town.facts; fact++) {
                    if ((mind >> fact & 1) != 0) {
                        List<Integer> next = new ArrayList<>(row);
                        next.add(fact);
                        longer.add(next);
                    }
                }
            }
            rows = longer;
        }
        return what == 1 ? now.town.worth(behind(now, person, best)) : tell(best, what, -100000);
    }

    private static int behind(State now, int person, List<Integer> row) {
        int mind = now.minds[person];
        for (int fact : row) {
            mind = now.town.forget(mind, fact, 1);
        }
        return mind;
    }

    int gap(int town, int day, int n, int person, int m) {
        State now = one(town, day, n, person);
        if (now == null || m < 0 || m > 3) {
            return NONE;
        }
        int most = now.town.parts(now.minds[person]).stream().mapToInt(now.town::worth).max().getAsInt();
        return most - best(town, day, n, person, m, 1);
    }

    int pact(int town, int day, int n, int person, int fact) {
        State now = one(town, day, n, person);
        if (now == null || !now.isFact(fact) || !now.has(person, fact)) {
            return NONE;
        }
        return fewest(now.whoHas(fact) & ~(1 << person), set -> {
            State then = now.copy();
            for (int p = 0; p < then.minds.length; p++) {
                if (p == person || (set >> p & 1) != 0) {
                    then.minds[p] = now.town.forget(then.minds[p], fact, 1);
                }
            }
            return !then.evening().has(person, fact);
        });
    }

    int guess(int town, int day, int n, int person, int can, int cannot, int what) {
        State now = one(town, day, n, person);
        int skills = now == null ? 0 : now.town.skills.size();
        if (now == null || can < 0 || can >= 1 << skills || cannot < 0 || cannot >= 1 << skills) {
            return NONE;
        }
        List<Integer> so = new ArrayList<>();
        for (int part : now.town.parts(now.minds[person])) {
            boolean fits = true;
            for (int s = 0; s < skills; s++) {
                boolean done = (part & now.town.skills.get(s)[1]) == now.town.skills.get(s)[1];
                fits &= done ? (cannot >> s & 1) == 0 : (can >> s & 1) == 0;
            }
            if (fits && (so.isEmpty() || Integer.bitCount(so.get(0)) == Integer.bitCount(part))) {
                so.add(part);
            }
        }
        if (so.isEmpty()) {
            return NONE;
        }
        int mind = now.minds[person];
        switch (what) {
            case 0: return Integer.bitCount(mind ^ so.get(0));
            case 1: return so.size();
            case 2: return so.stream().mapToInt(part -> mind ^ part).reduce((a, b) -> a & b).getAsInt();
            default: return NONE;
        }
    }

    int ask(int town, int day, int n, int person, int fact, boolean whom) {
        State now = one(town, day, n, person);
        if (now == null || !now.isFact(fact) || now.has(person, fact)) {
            return NONE;
        }
        int mind = now.minds[person];
        int pool = 0;
        for (int p = 0; p < now.minds.length; p++) {
            pool |= p == person ? 0 : now.minds[p] & ~mind;
        }
        int facts = fewest(pool, set -> (now.town.close(mind | set) >> fact & 1) != 0);
        if (facts == NONE || !whom) {
            return facts;
        }
        int who = 0;
        for (int f = 0; f < now.town.facts; f++) {
            if ((facts >> f & 1) != 0) {
                who |= Integer.lowestOneBit(now.whoHas(f) & ~(1 << person));
            }
        }
        return who;
    }

    int note(int town, int day, int n, int person, int fact, int but) {
        State now = one(town, day, n, person);
        if (now == null || !now.isFact(fact) || !now.isFact(but) || fact == but || now.has(person, fact)) {
            return NONE;
        }
        return fewest((1 << now.town.facts) - 1 & ~(1 << fact), set -> {
            int then = now.town.close(now.minds[person] | set);
            return (then >> fact & 1) != 0 && (then >> but & 1) == 0;
        });
    }

    int trial(int town, int day, int n, int person, int facts, int fact) {
        State now = one(town, day, n, person);
        if (now == null || !areFacts(now, facts) || !now.isFact(fact)) {
            return NONE;
        }
        int many = 0;
        for (int next = 0; !now.has(person, fact); next++) {
            if (next == 10) {
                return NONE;
            }
            if ((facts >> next & 1) != 0) {
                now.learn(person, 1 << next);
                many++;
            }
        }
        return many;
    }

    int order(int town, int day, int n, int person, int facts, int kind, int k) {
        State now = one(town, day, n, person);
        int many = Integer.bitCount(facts);
        if (now == null || kind < 0 || kind > 2 || many < 1 || many > 5 || (facts & ~now.minds[person]) != 0
                || k < 0 || k >= many) {
            return NONE;
        }
        List<List<Integer>> rows = new ArrayList<>();
        rows.add(List.of());
        for (int i = 0; i < many; i++) {
            List<List<Integer>> longer = new ArrayList<>();
            for (List<Integer> row : rows) {
                for (int fact = 0; fact < 10; fact++) {
                    if ((facts >> fact & 1) != 0 && !row.contains(fact)) {
                        List<Integer> next = new ArrayList<>(row);
                        next.add(fact);
                        longer.add(next);
                    }
                }
            }
            rows = longer;
        }
        for (List<Integer> row : rows) {
            int mind = now.minds[person];
            boolean so = true;
            for (int fact : row) {
                int then = now.town.forget(mind, fact, kind);
                so &= now.town.worth(then) >= now.town.worth(mind);
                mind = then;
            }
            if (so) {
                return row.get(k);
            }
        }
        return NONE;
    }

    /** The sets of which ways() and leans() tell; null: he has it not. */
    List<Integer> ways(int town, int day, int n, int person, int fact) {
        State now = one(town, day, n, person);
        if (now == null || !now.isFact(fact) || !now.has(person, fact)) {
            return null;
        }
        List<Integer> ways = new ArrayList<>();
        for (int set = 0; set < 1 << now.town.facts; set++) {
            boolean so = (set & ~now.minds[person]) == 0 && (set >> fact & 1) == 0;
            so = so && (now.town.close(set) >> fact & 1) != 0;
            for (int part = 0; part < set && so; part++) {
                so = (part & ~set) != 0 || (now.town.close(part) >> fact & 1) == 0;
            }
            if (so) {
                ways.add(set);
            }
        }
        return ways;
    }

    int leans(int town, int day, int n, int person, int fact, boolean needs) {
        List<Integer> ways = ways(town, day, n, person, fact);
        if (ways == null) {
            return NONE;
        }
        return ways.stream().reduce((a, b) -> needs ? a & b : a | b).orElse(0);
    }

    int gain(int town, int day, int n, int person, int fact, int kind) {
        State now = one(town, day, n, person);
        if (now == null || !now.isFact(fact) || !now.has(person, fact) || kind < 0 || kind > 2) {
            return -100000;
        }
        int mind = now.minds[person];
        return now.town.worth(now.town.forget(mind, fact, kind)) - now.town.worth(mind);
    }

    int relief(int town, int day, int n, int person, boolean kind) {
        int most = 0;
        int answer = NONE;
        for (int fact = 0; fact < 10; fact++) {
            for (int by = 0; by < 3; by++) {
                if (gain(town, day, n, person, fact, by) > most) {
                    most = gain(town, day, n, person, fact, by);
                    answer = kind ? by : fact;
                }
            }
        }
        return answer;
    }

    int days(int town, int day, int n, int seed, int what) {
        State now = state(town, day, n);
        if (now == null) {
            return -2;
        }
        int x = seed;
        int eaten = 0;
        while (now.hour < 9) {
            for (int p = 0; p < now.minds.length; p++) {
                x = x * 1103515245 + 12345;
                if ((x >>> 16) % 100 < now.town.people.get(p)[0] && now.minds[p] != 0) {
                    x = x * 1103515245 + 12345;
                    List<Integer> facts = new ArrayList<>();
                    for (int fact = 0; fact < 10; fact++) {
                        if (now.has(p, fact)) {
                            facts.add(fact);
                        }
                    }
                    int fact = facts.get((x >>> 16) % facts.size());
                    now.minds[p] = now.town.forget(now.minds[p], fact, 1);
                    eaten++;
                }
            }
            now.passHour(NONE, 0, 0);
        }
        if (what >= 10 && what < 20 && now.isOne(what - 10)) {
            return now.minds[what - 10];
        }
        switch (what) {
            case 0: return eaten;
            case 1: return now.all();
            case 2: return now.any();
            default: return -2;
        }
    }

    int twins(int town, int fact) {
        Town of = town(town);
        if (of == null || fact < 0 || fact >= of.facts) {
            return NONE;
        }
        int twins = 0;
        for (int other = 0; other < of.facts; other++) {
            int both = of.close(1 << fact) >> other & of.close(1 << other) >> fact & 1;
            twins |= other == fact ? 0 : both << other;
        }
        return twins;
    }

    int roots(int town, int day, int n, int person, int what) {
        State now = one(town, day, n, person);
        if (now == null) {
            return -2;
        }
        int mind = now.minds[person];
        if (what == 0) {
            return fewest(mind, set -> now.town.close(set) == mind);
        }
        int fresh = 0;
        int doom = NONE;
        int most = 0;
        for (int fact = 0; fact < now.town.facts; fact++) {
            if (now.has(person, fact)) {
                fresh |= now.town.close(mind & ~(1 << fact)) == mind ? 0 : 1 << fact;
                int goes = Integer.bitCount(mind ^ now.town.forget(mind, fact, 0));
                doom = goes > most ? fact : doom;
                most = Math.max(most, goes);
            }
        }
        return what == 1 ? fresh : what == 2 ? doom : -2;
    }

    int teach(int town, int day, int n, int person, int other) {
        State now = one(town, day, n, person);
        if (now == null || !now.isOne(other) || person == other) {
            return NONE;
        }
        int mind = now.minds[person];
        return fewest(mind, set -> (now.town.close(now.minds[other] | set) & mind) == mind);
    }

    int whole(int town, int day, int n, int what) {
        State now = state(town, day, n);
        if (now == null) {
            return NONE;
        }
        switch (what) {
            case 0:
                int secrets = 0;
                for (int fact = 0; fact < now.town.facts; fact++) {
                    secrets |= Integer.bitCount(now.whoHas(fact)) == 1 ? 1 << fact : 0;
                }
                return secrets;
            case 1: return now.evening().busy;
            case 2: return (1 << now.town.meets.size()) - 1 & ~now.evening().taught;
            default: return NONE;
        }
    }

    int stay(int town, int day, int n, int person, int fact) {
        State now = one(town, day, n, person);
        if (now == null || !now.isFact(fact)) {
            return NONE;
        }
        int pool = now.town.people.get(person)[2] >> now.hour + 1 << now.hour + 1;
        return fewest(pool, set -> !now.evening(person, set, 0).has(person, fact));
    }

    int shut(int town, int day, int n, int person, int fact) {
        State now = one(town, day, n, person);
        if (now == null || !now.isFact(fact)) {
            return NONE;
        }
        int pool = 0;
        for (int m = 0; m < now.town.meets.size(); m++) {
            pool |= now.town.meets.get(m)[2] > now.hour ? 1 << m : 0;
        }
        return fewest(pool, set -> !now.evening(NONE, 0, set).has(person, fact));
    }
}
