import java.util.Arrays;

/** Bread that makes one forget: towns and days told as texts, and what is asked of them. */
public final class ForgetBread {
    public static final int NONE = -1;

    private static final int NO_SUCH = -2;
    private static final int NO_WORTH = -100000;
    private static final int TOWN = 0;
    private static final int DAY = 1;
    private static final int MOST_TAPE = 600;
    private static final int MOST_TOWNS = 2;
    private static final int MOST_DAYS = 3;
    private static final int MOST_IMAGES = 3;
    private static final int MOST_FACTS = 10;
    private static final int MOST_PEOPLE = 5;
    private static final int MOST_MEETS = 12;
    private static final int MOST_ORDER = 5;
    private static final int MOST_LOAVES = 3;
    private static final int LAST_HOUR = 9;
    private static final int SETS = 1 << MOST_FACTS;
    private static final int LEAST = 1;
    private static final int LATE = 2;
    private static final int NO_LIMIT = MOST_FACTS;

    private static final int STAYS = 0;
    private static final int SHUTS = 1;
    private static final int EATS = 2;

    private final Told told;
    private final Told[] images;
    private final boolean[] made;
    private final Reader reader;
    private final Folk folk;
    private final Folk copy;
    private final Search search;
    private final int[] line;

    public ForgetBread() {
        told = new Told();
        images = new Told[MOST_IMAGES];
        for (int k = 0; k < images.length; k++) {
            images[k] = new Told();
        }
        made = new boolean[MOST_IMAGES];
        reader = new Reader();
        folk = new Folk();
        copy = new Folk();
        search = new Search();
        line = new int[MOST_ORDER];
    }

    // ---- what is told ----

    public int feed(int a, int b, int c, int d, int e) {
        if (told.length + 20 > MOST_TAPE) {
            return NONE;
        }
        told.feedNumber(a);
        told.feedNumber(b);
        told.feedNumber(c);
        told.feedNumber(d);
        told.feedNumber(e);
        return told.length;
    }

    public int end(int n) {
        if (n < 0 || n > told.length) {
            return NONE;
        }
        told.length = n;
        return n;
    }

    public int text(int sort, int at) {
        int length = told.length;
        told.length = 0;
        told.fault = 0;
        told.place = NONE;
        int place = told.placeFor(sort, at);
        if (place == NONE) {
            return NO_SUCH;
        }
        reader.read(told.tape, length, sort);
        told.fault = reader.fault;
        told.place = reader.place;
        if (reader.fault != 0) {
            return NONE;
        }
        if (sort == TOWN) {
            told.putTown(place, reader.town);
        } else {
            told.putDay(place, reader.acts);
        }
        return place;
    }

    public int fault(int what) {
        if (what == 0) {
            return told.fault;
        }
        return what == 1 ? told.place : NONE;
    }

    public int town(int town, int what) {
        Town asked = told.townAt(town);
        if (asked == null) {
            return NONE;
        }
        switch (what) {
            case 0: return asked.facts;
            case 1: return asked.rules.size;
            case 2: return asked.people.size;
            case 3: return asked.signs.size;
            case 4: return asked.meets.size;
            case 5: return asked.skills.size;
            case 6: return asked.hurts.size;
            case 7: return asked.price;
            case 8: return asked.lonely();
            default: return NONE;
        }
    }

    public int rule(int town, int rule, int what) {
        Town asked = told.townAt(town);
        return asked == null ? NONE : asked.rules.cell(rule, what);
    }

    public int person(int town, int person, int what) {
        Town asked = told.townAt(town);
        return asked == null ? NONE : asked.people.cell(person, what);
    }

    public int sign(int town, int sign, int what) {
        Town asked = told.townAt(town);
        return asked == null ? NONE : asked.signs.cell(sign, what);
    }

    public int meet(int town, int meet, int what) {
        Town asked = told.townAt(town);
        return asked == null ? NONE : asked.meets.cell(meet, what);
    }

    public int skill(int town, int skill, boolean hurt, int what) {
        Town asked = told.townAt(town);
        if (asked == null) {
            return NONE;
        }
        return hurt ? asked.hurts.cell(skill, what) : asked.skills.cell(skill, what);
    }

    public int act(int day, int act, int what) {
        Rows acts = told.dayAt(day);
        if (acts == null) {
            return NO_SUCH;
        }
        if (act == NONE && what == 0) {
            return acts.size;
        }
        return acts.has(act, what) ? acts.cell(act, what) : NO_SUCH;
    }

    public int count(int what) {
        if (what == TOWN) {
            return told.townCount;
        }
        return what == DAY ? told.dayCount : NO_SUCH;
    }

    public boolean image(int k) {
        if (k < 0 || k >= images.length || images[k] == null) {
            return false;
        }
        images[k].copyFrom(told);
        made[k] = true;
        return true;
    }

    public boolean back(int k) {
        if (k < 0 || k >= images.length || images[k] == null || !made[k]) {
            return false;
        }
        told.copyFrom(images[k]);
        return true;
    }

    // ---- what follows, whoever has it ----

    public int reach(int town, int facts) {
        Town asked = told.townAt(town);
        return asked == null || !asked.hasFacts(facts) ? NONE : asked.close(facts);
    }

    public int twins(int town, int fact) {
        Town asked = told.townAt(town);
        if (asked == null || !asked.hasFact(fact)) {
            return NONE;
        }
        int both = 0;
        for (int other = 0; other < asked.facts; other++) {
            boolean there = isIn(asked.close(1 << fact), other);
            if (other != fact && there && isIn(asked.close(1 << other), fact)) {
                both |= 1 << other;
            }
        }
        return both;
    }

    // ---- days and states ----

    public int stop(int town, int day) {
        Town asked = told.townAt(town);
        Rows acts = told.dayAt(day);
        if (asked == null || acts == null) {
            return NONE;
        }
        folk.begin(asked);
        int at = 0;
        while (at < acts.size && folk.doAct(acts, at)) {
            at++;
        }
        return at;
    }

    public int when(int town, int day, int person, int fact) {
        Town asked = told.townAt(town);
        Rows acts = told.dayAt(day);
        if (asked == null || acts == null || !asked.hasPerson(person) || !asked.hasFact(fact)) {
            return NONE;
        }
        folk.begin(asked);
        for (int at = 0; at < acts.size; at++) {
            boolean had = isIn(folk.mind(person), fact);
            if (!folk.doAct(acts, at)) {
                return NONE;
            }
            if (had && !isIn(folk.mind(person), fact)) {
                return at;
            }
        }
        return NONE;
    }

    public int state(int town, int day, int n, int what) {
        Folk now = find(town, day, n);
        if (now == null) {
            return NO_SUCH;
        }
        switch (what) {
            case 0: return now.hour;
            case 1: return now.allLoaves();
            case 2: return now.allLoaves() * now.town.price;
            case 3: return now.knownToAll();
            case 4: return now.knownToAny();
            case 5: return now.lost();
            case 6: return eveningOf(now).news;
            default: return stateOfOne(now, what);
        }
    }

    private static int stateOfOne(Folk now, int what) {
        if (what < 10 || what >= 40) {
            return NO_SUCH;
        }
        int person = what % 10;
        if (!now.town.hasPerson(person)) {
            return NO_SUCH;
        }
        if (what < 20) {
            return now.mind(person);
        }
        return what < 30 ? now.half(person) : now.loavesOf(person);
    }

    public int evening(int town, int day, int n, int person) {
        Folk now = findOne(town, day, n, person);
        return now == null ? NONE : eveningOf(now).mind(person);
    }

    public int worth(int town, int day, int n, int person, int what) {
        Folk now = findOne(town, day, n, person);
        if (now == null) {
            return NO_WORTH;
        }
        int mind = now.mind(person);
        switch (what) {
            case 0: return now.town.worthOf(mind);
            case 1: return Town.lying(now.town.skills, mind);
            case 2: return Town.lying(now.town.hurts, mind);
            default: return NO_WORTH;
        }
    }

    public int again(int town, int day, int n, int person, int fact) {
        Folk now = findOne(town, day, n, person);
        if (now == null || !now.town.hasFact(fact)) {
            return NONE;
        }
        copy.copyFrom(now);
        return copy.comesToHave(person, fact) ? copy.hour : NONE;
    }

    public int finds(int town, int day, int n, int person) {
        Folk now = findOne(town, day, n, person);
        return now == null ? NONE : eveningOf(now).mind(person) & ~now.mind(person);
    }

    public int spread(int town, int day, int n, int fact) {
        Folk now = find(town, day, n);
        return now == null || !now.town.hasFact(fact) ? NONE : eveningOf(now).whoHas(fact);
    }

    public int known(int town, int day, int n, int person, int fact) {
        Folk now = findOne(town, day, n, person);
        if (now == null || !now.town.hasFact(fact)) {
            return NONE;
        }
        copy.copyFrom(now);
        // Within hours nobody forgets: he has it from the first such hour on.
        return copy.comesToHave(person, fact) ? LAST_HOUR - copy.hour + 1 : 0;
    }

    public int whole(int town, int day, int n, int what) {
        Folk now = find(town, day, n);
        if (now == null) {
            return NONE;
        }
        switch (what) {
            case 0: return now.secrets();
            case 1: return eveningOf(now).busy;
            case 2: return ((1 << now.town.meets.size) - 1) & ~eveningOf(now).loud;
            default: return NONE;
        }
    }

    public int days(int town, int day, int n, int seed, int what) {
        Folk now = find(town, day, n);
        if (now == null) {
            return NO_SUCH;
        }
        int before = now.allLoaves();
        copy.copyFrom(now);
        copy.passSeeded(seed);
        switch (what) {
            case 0: return copy.allLoaves() - before;
            case 1: return copy.knownToAll();
            case 2: return copy.knownToAny();
            default: return what >= 10 && what < 20 ? stateOfOne(copy, what) : NO_SUCH;
        }
    }

    // ---- what goes ----

    public int gone(int town, int day, int n, int person, int fact, int kind) {
        Folk now = findOne(town, day, n, person);
        if (now == null || !isIn(now.mind(person), fact) || !isKind(kind)) {
            return NONE;
        }
        int mind = now.mind(person);
        return mind & ~now.town.forget(mind, fact, kind);
    }

    public int gain(int town, int day, int n, int person, int fact, int kind) {
        Folk now = findOne(town, day, n, person);
        if (now == null || !isIn(now.mind(person), fact) || !isKind(kind)) {
            return NO_WORTH;
        }
        return now.town.gainOf(now.mind(person), fact, kind);
    }

    public int relief(int town, int day, int n, int person, boolean kind) {
        Folk now = findOne(town, day, n, person);
        if (now == null) {
            return NONE;
        }
        int mind = now.mind(person);
        int most = 0;
        int answer = NONE;
        for (int fact = 0; fact < now.town.facts; fact++) {
            for (int by = 0; by <= LATE && isIn(mind, fact); by++) {
                int gain = now.town.gainOf(mind, fact, by);
                if (gain > most) {
                    most = gain;
                    answer = kind ? by : fact;
                }
            }
        }
        return answer;
    }

    public int keeps(int town, int day, int n, int person, int gone, int kept) {
        Folk now = findOne(town, day, n, person);
        if (now == null || !now.town.hasFacts(gone) || !now.town.hasFacts(kept)) {
            return NONE;
        }
        return now.town.largest(now.mind(person), gone, kept);
    }

    public int row(int town, int day, int n, int person, int gone, int kept, int what) {
        Folk now = findOne(town, day, n, person);
        if (now == null || !now.town.hasFacts(gone) || !now.town.hasFacts(kept)) {
            return NONE;
        }
        int mind = search.start(now.town, now.mind(person), NO_LIMIT);
        for (int left = SETS; left > 0 && mind != NONE && ((mind & gone) != 0 || (kept & ~mind) != 0); left--) {
            mind = search.next();
        }
        return search.tell(mind, what);
    }

    public int safe(int town, int day, int n, int person, int fact, int what) {
        Folk now = findOne(town, day, n, person);
        // Who has it by evening with an empty mind has it with every other mind.
        if (now == null || !now.town.hasFact(fact) || hasByEvening(now, person, 0, fact)) {
            return NONE;
        }
        int mind = search.start(now.town, now.mind(person), NO_LIMIT);
        for (int left = SETS; left > 0 && mind != NONE && hasByEvening(now, person, mind, fact); left--) {
            mind = search.next();
        }
        return search.tell(mind, what);
    }

    private boolean hasByEvening(Folk now, int person, int mind, int fact) {
        copy.copyFrom(now);
        copy.setMind(person, mind);
        return copy.comesToHave(person, fact);
    }

    public int best(int town, int day, int n, int person, int m, int what) {
        Folk now = findOne(town, day, n, person);
        if (now == null || m < 0 || m > MOST_LOAVES) {
            return NO_WORTH;
        }
        int mind = bestMind(now, person, m);
        if (what == 1) {
            return now.town.worthOf(mind);
        }
        int answer = search.tell(mind, what);
        return answer == NONE ? NO_WORTH : answer;
    }

    public int gap(int town, int day, int n, int person, int m) {
        Folk now = findOne(town, day, n, person);
        if (now == null || m < 0 || m > MOST_LOAVES) {
            return NONE;
        }
        int worth = now.town.worthOf(bestMind(now, person, m));
        return now.town.mostWorth(now.mind(person)) - worth;
    }

    private int bestMind(Folk now, int person, int m) {
        int best = search.start(now.town, now.mind(person), m);
        int most = now.town.worthOf(best);
        int mind = best;
        for (int left = SETS; left > 0 && mind != NONE; left--) {
            int worth = now.town.worthOf(mind);
            if (worth > most) {
                most = worth;
                best = mind;
            }
            mind = search.next();
        }
        return best;
    }

    public int order(int town, int day, int n, int person, int facts, int kind, int k) {
        Folk now = findOne(town, day, n, person);
        if (now == null || !now.town.hasFacts(facts) || !isKind(kind)) {
            return NONE;
        }
        int mind = now.mind(person);
        int many = Integer.bitCount(facts);
        if (many < 1 || many > MOST_ORDER || (facts & ~mind) != 0 || k < 0 || k >= many) {
            return NONE;
        }
        return orderFrom(now.town, mind, facts, kind, 0, line) ? line[k] : NONE;
    }

    private static boolean orderFrom(Town town, int mind, int left, int kind, int depth, int[] line) {
        if (left == 0 || depth >= line.length) {
            return left == 0;
        }
        for (int fact = 0; fact < town.facts; fact++) {
            if (isIn(left, fact)) {
                int then = town.forget(mind, fact, kind);
                line[depth] = fact;
                if (town.worthOf(then) >= town.worthOf(mind)
                        && orderFrom(town, then, left & ~(1 << fact), kind, depth + 1, line)) {
                    return true;
                }
            }
        }
        return false;
    }

    public int guess(int town, int day, int n, int person, int can, int cannot, int what) {
        Folk now = findOne(town, day, n, person);
        if (now == null || what < 0 || what > 2) {
            return NONE;
        }
        Town asked = now.town;
        int none = -(1 << asked.skills.size);
        if ((can & none) != 0 || (cannot & none) != 0) {
            return NONE;
        }
        int mind = now.mind(person);
        int most = NONE;
        int parts = 0;
        int wentInAll = 0;
        // All parts of a set, from itself down to 0 by their numbers: (part - 1) & set is the next one.
        int part = mind;
        for (int left = 1 << Integer.bitCount(mind); left > 0; left--) {
            int size = Integer.bitCount(part);
            if (size >= most && asked.isClosed(part) && asked.does(part, can, cannot)) {
                parts = size > most ? 1 : parts + 1;
                wentInAll = (size > most ? mind : wentInAll) & ~part;
                most = size;
            }
            part = (part - 1) & mind;
        }
        if (most == NONE) {
            return NONE;
        }
        if (what == 0) {
            return Integer.bitCount(mind) - most;
        }
        return what == 1 ? parts : wentInAll;
    }

    // ---- what comes ----

    public int ask(int town, int day, int n, int person, int fact, boolean whom) {
        Folk now = findOne(town, day, n, person);
        if (now == null || !now.town.hasFact(fact) || isIn(now.mind(person), fact)) {
            return NONE;
        }
        int mind = now.mind(person);
        int others = now.knownToOthers(person) & ~mind;
        int facts = now.town.fewest(others, mind, 1 << fact, 0);
        return facts == NONE || !whom ? facts : now.leastWhoHave(facts, person);
    }

    public int note(int town, int day, int n, int person, int fact, int but) {
        Folk now = findOne(town, day, n, person);
        if (now == null || !now.town.hasFact(fact) || !now.town.hasFact(but) || fact == but) {
            return NONE;
        }
        int mind = now.mind(person);
        if (isIn(mind, fact)) {
            return NONE;
        }
        int notes = now.town.all() & ~mind & ~(1 << fact);
        return now.town.fewest(notes, mind, 1 << fact, 1 << but);
    }

    public int honest(int town, int day, int n, int person, int facts) {
        Folk now = findOne(town, day, n, person);
        return now == null || !now.town.hasFacts(facts) ? NONE : facts & ~now.mind(person);
    }

    public int trial(int town, int day, int n, int person, int facts, int fact) {
        Folk now = findOne(town, day, n, person);
        if (now == null || !now.town.hasFacts(facts) || !now.town.hasFact(fact)) {
            return NONE;
        }
        int mind = now.mind(person);
        int learnt = 0;
        for (int next = 0; next < now.town.facts && !isIn(mind, fact); next++) {
            if (isIn(facts, next)) {
                mind = now.town.close(mind | 1 << next);
                learnt++;
            }
        }
        return isIn(mind, fact) ? learnt : NONE;
    }

    public int teach(int town, int day, int n, int person, int other) {
        Folk now = findOne(town, day, n, person);
        if (now == null || !now.town.hasPerson(other) || person == other) {
            return NONE;
        }
        int mind = now.mind(person);
        return now.town.fewest(mind, now.mind(other), mind, 0);
    }

    public int roots(int town, int day, int n, int person, int what) {
        Folk now = findOne(town, day, n, person);
        if (now == null) {
            return NO_SUCH;
        }
        int mind = now.mind(person);
        switch (what) {
            case 0: return now.town.fewest(mind, 0, mind, 0);
            case 1: return now.town.fresh(mind);
            case 2: return now.town.doom(mind);
            default: return NO_SUCH;
        }
    }

    public int ways(int town, int day, int n, int person, int fact) {
        Folk now = findOne(town, day, n, person);
        if (now == null || !isIn(now.mind(person), fact)) {
            return NONE;
        }
        int rest = now.mind(person) & ~(1 << fact);
        int ways = 0;
        int part = rest;
        for (int left = 1 << Integer.bitCount(rest); left > 0; left--) {
            if (now.town.isWay(part, fact)) {
                ways++;
            }
            part = (part - 1) & rest;
        }
        return ways;
    }

    public int leans(int town, int day, int n, int person, int fact, boolean needs) {
        Folk now = findOne(town, day, n, person);
        if (now == null || !isIn(now.mind(person), fact)) {
            return NONE;
        }
        int rest = now.mind(person) & ~(1 << fact);
        int any = 0;
        int each = rest;
        int part = rest;
        for (int left = 1 << Integer.bitCount(rest); left > 0; left--) {
            if (now.town.isWay(part, fact)) {
                any |= part;
                each &= part;
            }
            part = (part - 1) & rest;
        }
        // Of a way at least one fact is in it, so without ways nothing leans.
        return any == 0 || !needs ? any : each;
    }

    // ---- how it can be kept away ----

    public int pact(int town, int day, int n, int person, int fact) {
        Folk now = findOne(town, day, n, person);
        if (now == null || !isIn(now.mind(person), fact)) {
            return NONE;
        }
        int others = now.whoHas(fact) & ~(1 << person);
        return fewestThatKeepAway(now, EATS, person, fact, others);
    }

    public int stay(int town, int day, int n, int person, int fact) {
        Folk now = findOne(town, day, n, person);
        if (now == null || !now.town.hasFact(fact)) {
            return NONE;
        }
        int hours = now.town.people.cell(person, 2) & -(2 << now.hour);
        return fewestThatKeepAway(now, STAYS, person, fact, hours);
    }

    public int shut(int town, int day, int n, int person, int fact) {
        Folk now = findOne(town, day, n, person);
        if (now == null || !now.town.hasFact(fact)) {
            return NONE;
        }
        return fewestThatKeepAway(now, SHUTS, person, fact, now.meetsToCome());
    }

    /**
     * Of the sets from a pool those of the fewest by which one has not a fact in the evening, of these the
     * least number. A larger set never does worse than a smaller one, so what must be in each of them is
     * found first, and the sets that have it not are left out.
     */
    private int fewestThatKeepAway(Folk now, int how, int person, int fact, int pool) {
        if (!keepsAway(now, how, person, fact, pool)) {
            return NONE;
        }
        int must = 0;
        for (int one = 0; one < MOST_MEETS; one++) {
            if (isIn(pool, one) && !keepsAway(now, how, person, fact, pool & ~(1 << one))) {
                must |= 1 << one;
            }
        }
        int free = pool & ~must;
        int best = pool;
        int part = free;
        for (int left = 1 << Integer.bitCount(free); left > 0; left--) {
            int set = must | part;
            int less = Integer.bitCount(best) - Integer.bitCount(set);
            if (less >= 0 && keepsAway(now, how, person, fact, set)) {
                best = set;
            }
            part = (part - 1) & free;
        }
        return best;
    }

    private boolean keepsAway(Folk now, int how, int person, int fact, int set) {
        copy.copyFrom(now);
        if (how == STAYS) {
            copy.stayer = person;
            copy.stays = set;
        } else if (how == SHUTS) {
            copy.shutMeets = set;
        } else {
            for (int eater = 0; eater < MOST_PEOPLE; eater++) {
                if (eater == person || isIn(set, eater)) {
                    copy.eat(eater, fact, LEAST);
                }
            }
        }
        return !copy.comesToHave(person, fact);
    }

    // ---- finding a state ----

    private Folk find(int town, int day, int n) {
        Town asked = told.townAt(town);
        Rows acts = told.dayAt(day);
        if (asked == null || (acts == null && day != NONE)) {
            return null;
        }
        int most = acts == null ? 0 : acts.size;
        if (n < 0 || n > most) {
            return null;
        }
        folk.begin(asked);
        for (int at = 0; at < n; at++) {
            if (!folk.doAct(acts, at)) {
                return null;
            }
        }
        return folk;
    }

    private Folk findOne(int town, int day, int n, int person) {
        Folk now = find(town, day, n);
        return now == null || !now.town.hasPerson(person) ? null : now;
    }

    private Folk eveningOf(Folk now) {
        copy.copyFrom(now);
        copy.passDay();
        return copy;
    }

    private static boolean isIn(int set, int one) {
        return one >= 0 && one < 31 && (set >> one & 1) != 0;
    }

    private static boolean isKind(int kind) {
        return kind >= 0 && kind <= LATE;
    }

    /** Rows of numbers, as many as were told, up to a limit. */
    private static final class Rows {
        final int width;
        final int[] cells;
        int size;

        Rows(int most, int width) {
            this.width = width;
            cells = new int[Math.max(0, most * width)];
        }

        boolean isFull() {
            return (size + 1) * width > cells.length;
        }

        int add(int blank) {
            if (isFull()) {
                return NONE;
            }
            int row = size;
            size++;
            for (int column = 0; column < width; column++) {
                put(row, column, blank);
            }
            return row;
        }

        boolean has(int row, int column) {
            return row >= 0 && row < size && column >= 0 && column < width;
        }

        int cell(int row, int column) {
            // As in has(), which would be a call too deep for some of those that ask.
            boolean there = row >= 0 && row < size && column >= 0 && column < width;
            return there ? cells[row * width + column] : NONE;
        }

        void put(int row, int column, int value) {
            if (has(row, column)) {
                cells[row * width + column] = value;
            }
        }

        void putBit(int row, int column, int bit) {
            if (has(row, column)) {
                cells[row * width + column] |= 1 << bit;
            }
        }

        void copyFrom(Rows other) {
            if (other.cells.length == cells.length) {
                System.arraycopy(other.cells, 0, cells, 0, cells.length);
                size = other.size;
            }
        }
    }

    /** A town as it is told, and what follows from its rules. */
    private static final class Town {
        int facts = 6;
        int price = 4;
        final Rows rules = new Rows(16, 2);
        final Rows people = new Rows(MOST_PEOPLE, 3);
        final Rows signs = new Rows(12, 2);
        final Rows meets = new Rows(MOST_MEETS, 4);
        final Rows skills = new Rows(6, 2);
        final Rows hurts = new Rows(6, 2);
        /** Of each set of facts that set and all that follows from it. */
        private final int[] closures = new int[SETS];

        void clear() {
            facts = 6;
            price = 4;
            rules.size = 0;
            people.size = 0;
            signs.size = 0;
            meets.size = 0;
            skills.size = 0;
            hurts.size = 0;
        }

        void copyFrom(Town other) {
            facts = other.facts;
            price = other.price;
            rules.copyFrom(other.rules);
            people.copyFrom(other.people);
            signs.copyFrom(other.signs);
            meets.copyFrom(other.meets);
            skills.copyFrom(other.skills);
            hurts.copyFrom(other.hurts);
            System.arraycopy(other.closures, 0, closures, 0, SETS);
        }

        int all() {
            return (1 << facts) - 1;
        }

        boolean hasFact(int fact) {
            return fact >= 0 && fact < facts;
        }

        boolean hasFacts(int set) {
            return (set & ~all()) == 0;
        }

        boolean hasPerson(int person) {
            return person >= 0 && person < people.size;
        }

        int lonely() {
            int told = 0;
            for (int rule = 0; rule < rules.size; rule++) {
                told |= 1 << rules.cell(rule, 0) | rules.cell(rule, 1);
            }
            return all() & ~told;
        }

        /** To be called when the rules are told: what follows is looked up then. */
        void followRules() {
            // A rule leads on to a set of a greater number, which is known already.
            for (int set = all(); set >= 0; set--) {
                int next = set;
                for (int rule = 0; rule < rules.size && next == set; rule++) {
                    if ((rules.cell(rule, 1) & ~set) == 0) {
                        next |= 1 << rules.cell(rule, 0);
                    }
                }
                if (set < closures.length) {
                    closures[set] = next > set && next < closures.length ? closures[next] : set;
                }
            }
        }

        int close(int set) {
            return set >= 0 && set < closures.length ? closures[set] : set;
        }

        boolean isClosed(int set) {
            return close(set) == set;
        }

        /** The largest closed part with none of some, all of others; of several the greatest number; or NONE. */
        int largest(int mind, int gone, int kept) {
            int pool = mind & ~gone;
            if ((kept & ~pool) != 0) {
                return NONE;
            }
            int free = pool & ~kept;
            int best = NONE;
            int most = NONE;
            int part = free;
            for (int left = 1 << Integer.bitCount(free); left > 0 && most < Integer.bitCount(pool); left--) {
                int size = Integer.bitCount(part | kept);
                if (size > most && close(part | kept) == (part | kept)) {
                    most = size;
                    best = part | kept;
                }
                part = (part - 1) & free;
            }
            return best;
        }

        int forget(int mind, int fact, int kind) {
            if (!isIn(mind, fact)) {
                return mind;
            }
            if (kind == LEAST) {
                return largest(mind, 1 << fact, 0);
            }
            return kind == LATE ? forgetLate(mind, fact) : forgetWhole(mind, fact);
        }

        private int forgetWhole(int mind, int fact) {
            int gone = 1 << fact;
            for (int round = 0; round < MOST_FACTS; round++) {
                int before = gone;
                for (int rule = 0; rule < rules.size; rule++) {
                    int from = rules.cell(rule, 1);
                    if (isIn(gone, rules.cell(rule, 0)) && (from & ~mind) == 0) {
                        gone |= from;
                    }
                }
                if (gone == before) {
                    break;
                }
            }
            return mind & ~gone;
        }

        private int forgetLate(int mind, int fact) {
            int left = mind & ~(1 << fact);
            for (int round = 0; round < MOST_FACTS; round++) {
                int from = 0;
                for (int rule = 0; rule < rules.size && from == 0; rule++) {
                    boolean gone = isIn(mind & ~left, rules.cell(rule, 0));
                    from = gone && (rules.cell(rule, 1) & ~left) == 0 ? rules.cell(rule, 1) : 0;
                }
                left &= ~greatestOf(from);
            }
            return left;
        }

        /** The fact of the greatest number, as a set; 0 of none. */
        private static int greatestOf(int set) {
            int greatest = 0;
            for (int fact = 0; fact < MOST_FACTS; fact++) {
                greatest = (set >> fact & 1) != 0 ? 1 << fact : greatest;
            }
            return greatest;
        }

        /** Of rows (how much, facts) those, as bits, whose facts are all in a mind. */
        static int lying(Rows rows, int mind) {
            int set = 0;
            for (int row = 0; row < rows.size; row++) {
                if ((rows.cell(row, 1) & ~mind) == 0) {
                    set |= 1 << row;
                }
            }
            return set;
        }

        private static int sum(Rows rows, int mind) {
            int sum = 0;
            for (int row = 0; row < rows.size; row++) {
                if ((rows.cell(row, 1) & ~mind) == 0) {
                    sum += rows.cell(row, 0);
                }
            }
            return sum;
        }

        int worthOf(int mind) {
            return sum(skills, mind) - sum(hurts, mind);
        }

        int gainOf(int mind, int fact, int kind) {
            return worthOf(forget(mind, fact, kind)) - worthOf(mind);
        }

        int mostWorth(int mind) {
            int most = worthOf(mind);
            int part = mind;
            for (int left = 1 << Integer.bitCount(mind); left > 0; left--) {
                if (isClosed(part)) {
                    most = Math.max(most, worthOf(part));
                }
                part = (part - 1) & mind;
            }
            return most;
        }

        boolean does(int mind, int can, int cannot) {
            int done = lying(skills, mind);
            return (can & ~done) == 0 && (cannot & done) == 0;
        }

        /** The fewest of a pool by which, learnt, a mind has all that it needs and none of what it must not. */
        int fewest(int pool, int mind, int need, int not) {
            int best = NONE;
            int least = MOST_FACTS + 1;
            int part = pool;
            for (int left = 1 << Integer.bitCount(pool); left > 0; left--) {
                int many = Integer.bitCount(part);
                if (many <= least) {
                    int then = close(mind | part);
                    if ((need & ~then) == 0 && (not & then) == 0) {
                        best = part;
                        least = many;
                    }
                }
                part = (part - 1) & pool;
            }
            return best;
        }

        /** Whether a fact follows from a set, and from no part of it. */
        boolean isWay(int set, int fact) {
            if (!isIn(close(set), fact)) {
                return false;
            }
            for (int one = 0; one < facts; one++) {
                if (isIn(set, one) && isIn(close(set & ~(1 << one)), fact)) {
                    return false;
                }
            }
            return true;
        }

        int fresh(int mind) {
            int set = 0;
            for (int fact = 0; fact < facts; fact++) {
                if (isIn(mind, fact) && !isIn(close(mind & ~(1 << fact)), fact)) {
                    set |= 1 << fact;
                }
            }
            return set;
        }

        int doom(int mind) {
            int most = 0;
            int doom = NONE;
            for (int fact = 0; fact < facts; fact++) {
                int goes = Integer.bitCount(mind & ~forget(mind, fact, 0));
                if (goes > most) {
                    most = goes;
                    doom = fact;
                }
            }
            return doom;
        }
    }

    /** A state: minds, halves, loaves, the hour; and what the hours since it was copied have brought. */
    private static final class Folk {
        Town town = null;
        /** How many people there are. */
        int many;
        int hour;
        final int[] minds = new int[MOST_PEOPLE];
        final int[] halves = new int[MOST_PEOPLE];
        final int[] loaves = new int[MOST_PEOPLE];
        /** Who is not out in some of his hours, and in which; and the meetings that are not. */
        int stayer = NONE;
        int stays;
        int shutMeets;
        int news;
        int busy;
        int loud;

        void begin(Town its) {
            town = its;
            many = Math.min(its.people.size, MOST_PEOPLE);
            hour = 0;
            for (int person = 0; person < MOST_PEOPLE; person++) {
                minds[person] = firstMind(person);
                halves[person] = 0;
                loaves[person] = 0;
            }
            forgetCounts();
        }

        private void forgetCounts() {
            stayer = NONE;
            stays = 0;
            shutMeets = 0;
            news = 0;
            busy = 0;
            loud = 0;
        }

        void copyFrom(Folk other) {
            town = other.town;
            many = other.many;
            hour = other.hour;
            System.arraycopy(other.minds, 0, minds, 0, MOST_PEOPLE);
            System.arraycopy(other.halves, 0, halves, 0, MOST_PEOPLE);
            System.arraycopy(other.loaves, 0, loaves, 0, MOST_PEOPLE);
            forgetCounts();
        }

        private int firstMind(int person) {
            return isThere(person) ? town.close(town.people.cell(person, 1)) : 0;
        }

        private boolean isThere(int person) {
            return town != null && person >= 0 && person < many && person < MOST_PEOPLE;
        }

        int mind(int person) {
            return isThere(person) ? minds[person] : 0;
        }

        int half(int person) {
            return isThere(person) ? halves[person] : 0;
        }

        int loavesOf(int person) {
            return isThere(person) ? loaves[person] : 0;
        }

        void setMind(int person, int mind) {
            if (isThere(person)) {
                minds[person] = mind;
            }
        }

        boolean has(int person, int fact) {
            return isThere(person) && isIn(minds[person], fact);
        }

        int allLoaves() {
            int sum = 0;
            for (int person = 0; person < MOST_PEOPLE; person++) {
                sum += loavesOf(person);
            }
            return sum;
        }

        int knownToAll() {
            int set = town == null ? 0 : town.all();
            for (int person = 0; person < many; person++) {
                set &= mind(person);
            }
            return set;
        }

        int knownToAny() {
            return knownToOthers(NONE);
        }

        int knownToOthers(int one) {
            int set = 0;
            for (int person = 0; person < many; person++) {
                set |= person == one ? 0 : mind(person);
            }
            return set;
        }

        int lost() {
            int first = 0;
            for (int person = 0; person < many; person++) {
                first |= firstMind(person);
            }
            return first & ~knownToAny();
        }

        int secrets() {
            int once = 0;
            int more = 0;
            for (int person = 0; person < many; person++) {
                more |= once & mind(person);
                once |= mind(person);
            }
            return once & ~more;
        }

        int whoHas(int fact) {
            int who = 0;
            for (int person = 0; person < many; person++) {
                who |= has(person, fact) ? 1 << person : 0;
            }
            return who;
        }

        /** Of each of some facts the least one, but for one, who has it. */
        int leastWhoHave(int facts, int one) {
            int who = 0;
            int left = facts;
            for (int person = 0; person < many; person++) {
                if (person != one && (left & mind(person)) != 0) {
                    who |= 1 << person;
                    left &= ~mind(person);
                }
            }
            return who;
        }

        int meetsToCome() {
            int set = 0;
            for (int meet = 0; town != null && meet < town.meets.size; meet++) {
                if (town.meets.cell(meet, 2) > hour) {
                    set |= 1 << meet;
                }
            }
            return set;
        }

        private void learn(int person, int facts) {
            if (isThere(person) && (facts & ~minds[person]) != 0) {
                minds[person] = town.close(minds[person] | facts);
                busy |= 1 << hour;
            }
        }

        /** What goes by it. */
        int eat(int person, int fact, int kind) {
            if (!isThere(person)) {
                return 0;
            }
            int before = minds[person];
            minds[person] = town.forget(before, fact, kind);
            loaves[person]++;
            return before & ~minds[person];
        }

        /** Does an act of a day; false, and nothing done, if it can't be. */
        boolean doAct(Rows acts, int at) {
            int kind = acts == null ? NONE : acts.cell(at, 0);
            if (kind == Word.HOUR.kind) {
                boolean can = hour < LAST_HOUR;
                passHour();
                return can;
            }
            int one = kind == NONE ? NONE : acts.cell(at, 1);
            if (!isThere(one)) {
                return false;
            }
            int second = acts.cell(at, 2);
            if (kind == Word.ASK.kind) {
                int fact = acts.cell(at, 3);
                return has(second, fact) && learnsOne(one, fact);
            }
            if (kind == Word.LEARN.kind) {
                return learnsOne(one, second);
            }
            if (!has(one, second)) {
                return false;
            }
            int went = eat(one, second, kind == Word.HALF.kind ? LEAST : kind);
            halves[one] |= kind == Word.HALF.kind ? went : 0;
            return true;
        }

        private boolean learnsOne(int person, int fact) {
            if (town == null || !town.hasFact(fact)) {
                return false;
            }
            learn(person, 1 << fact);
            return true;
        }

        void passHour() {
            if (hour >= LAST_HOUR || town == null) {
                return;
            }
            hour++;
            for (int person = 0; person < many; person++) {
                int out = town.people.cell(person, 2) & ~(person == stayer ? stays : 0);
                if (isIn(out, hour)) {
                    seeSigns(person);
                }
            }
            holdMeetings();
            for (int person = 0; hour == LAST_HOUR && person < many; person++) {
                learn(person, halves[person]);
                halves[person] = 0;
            }
        }

        private void seeSigns(int person) {
            Rows signs = town.signs;
            for (int sign = 0; sign < signs.size; sign++) {
                int fact = signs.cell(sign, 1);
                if (signs.cell(sign, 0) == hour && !has(person, fact)) {
                    news++;
                    learn(person, 1 << fact);
                }
            }
        }

        private void holdMeetings() {
            Rows meets = town.meets;
            for (int meet = 0; meet < meets.size; meet++) {
                int whom = meets.cell(meet, 1);
                int fact = meets.cell(meet, 3);
                boolean held = meets.cell(meet, 2) == hour && !isIn(shutMeets, meet);
                if (held && has(meets.cell(meet, 0), fact) && !has(whom, fact)) {
                    news++;
                    loud |= 1 << meet;
                    learn(whom, 1 << fact);
                }
            }
        }

        void passDay() {
            for (int left = LAST_HOUR - hour; left > 0; left--) {
                passHour();
            }
        }

        /** Hours pass until one has a fact, or it is evening: whether he has it. */
        boolean comesToHave(int person, int fact) {
            for (int left = LAST_HOUR - hour; left > 0 && !has(person, fact); left--) {
                passHour();
            }
            return has(person, fact);
        }

        void passSeeded(int seed) {
            int drawn = seed;
            for (int left = LAST_HOUR - hour; left > 0; left--) {
                for (int person = 0; person < many; person++) {
                    drawn = draw(drawn);
                    boolean hungry = below(drawn, 100) < town.people.cell(person, 0);
                    if (hungry && mind(person) != 0) {
                        drawn = draw(drawn);
                        int at = below(drawn, Integer.bitCount(mind(person)));
                        eat(person, factAt(mind(person), at), LEAST);
                    }
                }
                passHour();
            }
        }

        private static int draw(int x) {
            return x * 1103515245 + 12345;
        }

        private static int below(int x, int n) {
            return n <= 0 ? 0 : (x >>> 16) % n;
        }

        private static int factAt(int mind, int at) {
            int left = at;
            for (int fact = 0; fact < MOST_FACTS; fact++) {
                if (isIn(mind, fact)) {
                    if (left == 0) {
                        return fact;
                    }
                    left--;
                }
            }
            return NONE;
        }
    }

    /** The minds that one comes to by loaves, each by least: by how many loaves, then by rows of facts. */
    private static final class Search {
        private final int[] queue = new int[SETS];
        /** Of each mind the one ahead of it, the loaf between, and how many led to it (NONE: not found). */
        private final int[] from = new int[SETS];
        private final int[] by = new int[SETS];
        private final int[] loaves = new int[SETS];
        private Town town = null;
        private int found;
        private int told;
        private int most;

        int start(Town its, int mind, int limit) {
            town = its;
            found = 0;
            told = 0;
            most = limit;
            Arrays.fill(loaves, NONE);
            put(mind, NONE, NONE, 0);
            told = found;
            return mind;
        }

        private void put(int mind, int ahead, int loaf, int many) {
            if (isMind(mind) && loaves[mind] == NONE && found < SETS) {
                queue[found] = mind;
                found++;
                from[mind] = ahead;
                by[mind] = loaf;
                loaves[mind] = many;
            }
        }

        private static boolean isMind(int mind) {
            return mind >= 0 && mind < SETS;
        }

        /** The next mind, or NONE. */
        int next() {
            if (told > 0 && told <= found) {
                leadOn(queue[told - 1]);
            }
            if (told >= found) {
                return NONE;
            }
            told++;
            return queue[told - 1];
        }

        private void leadOn(int mind) {
            if (!isMind(mind) || town == null || loaves[mind] >= most) {
                return;
            }
            for (int fact = 0; fact < MOST_FACTS; fact++) {
                if (isIn(mind, fact)) {
                    put(town.largest(mind, 1 << fact, 0), mind, fact, loaves[mind] + 1);
                }
            }
        }

        /** Of the row that leads to a mind how many loaves (0), or the fact of loaf i (10 + i); else NONE. */
        int tell(int mind, int what) {
            if (!isMind(mind) || loaves[mind] == NONE) {
                return NONE;
            }
            if (what == 0) {
                return loaves[mind];
            }
            if (what < 10 || what - 10 >= loaves[mind]) {
                return NONE;
            }
            int at = mind;
            for (int back = loaves[mind] - 1; back > what - 10 && isMind(at); back--) {
                at = from[at];
            }
            return isMind(at) ? by[at] : NONE;
        }
    }

    /** All that is told: the tape, the latest fault, towns and days. */
    private static final class Told {
        final byte[] tape = new byte[MOST_TAPE];
        int length;
        int fault;
        int place = NONE;
        int townCount;
        int dayCount;
        private final Town[] towns;
        private final Rows[] days;

        Told() {
            towns = new Town[MOST_TOWNS];
            for (int town = 0; town < towns.length; town++) {
                towns[town] = new Town();
            }
            days = new Rows[MOST_DAYS];
            for (int day = 0; day < days.length; day++) {
                days[day] = new Rows(30, 4);
            }
        }

        void feedNumber(int number) {
            for (int shift = 24; shift >= 0 && length >= 0 && length < tape.length; shift -= 8) {
                tape[length] = (byte) (number >> shift);
                length++;
            }
        }

        Town townAt(int town) {
            return town >= 0 && town < townCount && town < towns.length ? towns[town] : null;
        }

        Rows dayAt(int day) {
            return day >= 0 && day < dayCount && day < days.length ? days[day] : null;
        }

        /** The number that a text of a sort gets if it is read; NONE: it can't be. */
        int placeFor(int sort, int at) {
            if (sort != TOWN && sort != DAY) {
                return NONE;
            }
            int there = sort == TOWN ? townCount : dayCount;
            if (at == NONE) {
                return there < (sort == TOWN ? MOST_TOWNS : MOST_DAYS) ? there : NONE;
            }
            return at >= 0 && at < there ? at : NONE;
        }

        void putTown(int at, Town read) {
            if (at >= 0 && at < towns.length && towns[at] != null) {
                towns[at].copyFrom(read);
                townCount = Math.max(townCount, at + 1);
            }
        }

        void putDay(int at, Rows read) {
            if (at >= 0 && at < days.length && days[at] != null) {
                days[at].copyFrom(read);
                dayCount = Math.max(dayCount, at + 1);
            }
        }

        void copyFrom(Told other) {
            System.arraycopy(other.tape, 0, tape, 0, MOST_TAPE);
            length = other.length;
            fault = other.fault;
            place = other.place;
            for (int town = 0; town < towns.length && town < other.towns.length; town++) {
                if (towns[town] != null && other.towns[town] != null) {
                    towns[town].copyFrom(other.towns[town]);
                }
            }
            for (int day = 0; day < days.length && day < other.days.length; day++) {
                if (days[day] != null && other.days[day] != null) {
                    days[day].copyFrom(other.days[day]);
                }
            }
            townCount = other.townCount;
            dayCount = other.dayCount;
        }
    }

    /**
     * A line's first word, and its numbers, a sign each: c how many facts, n any number, f a fact, u a fact
     * unlike those ahead of it, p one told ahead, o another one told ahead, h an hour, w one, x another one.
     */
    private enum Word {
        FACTS("facts", NONE, "c", false),
        RULE("rule", NONE, "uu", true),
        ONE("one", NONE, "n", false),
        KNOWS("knows", NONE, "pf", true),
        OUT("out", NONE, "ph", true),
        SIGN("sign", NONE, "hf", false),
        MEET("meet", NONE, "pohf", false),
        SKILL("skill", NONE, "nu", true),
        HURT("hurt", NONE, "nu", true),
        PRICE("price", NONE, "n", false),
        WHOLE("whole", 0, "wf", false),
        LEAST("least", 1, "wf", false),
        LATE("late", 2, "wf", false),
        HALF("half", 3, "wf", false),
        LEARN("learn", 4, "wf", false),
        ASK("ask", 5, "wxf", false),
        HOUR("hour", 6, "", false);

        final String spelled;
        /** Of an act its kind; NONE: it stands in a town's text. */
        final int kind;
        final String numbers;
        /** Whether more numbers like the last one may follow. */
        final boolean more;

        Word(String spelled, int kind, String numbers, boolean more) {
            this.spelled = spelled;
            this.kind = kind;
            this.numbers = numbers;
            this.more = more;
        }

        int sort() {
            return kind == NONE ? TOWN : DAY;
        }

        /** The sign of a number by its place in the line; a blank: there is no such number. */
        char signAt(int at) {
            int last = numbers.length() - 1;
            int i = more && at > last ? last : at;
            return i >= 0 && i <= last ? numbers.charAt(i) : ' ';
        }
    }

    /** Reads a text into a town or into acts, or finds its fault. */
    private static final class Reader {
        private static final char THE_END = 'e';
        private static final char BAD = 'b';
        private static final char LETTERS = 'w';
        private static final char NUMBER = 'n';
        private static final char CLOSE = ';';

        final Town town = new Town();
        final Rows acts = new Rows(30, 4);
        int fault;
        int place;
        private final Word[] words = Word.values();
        private byte[] tape = null;
        private int length;
        private int at;
        private char token;
        private int start;
        private int number;
        private int toldFacts;
        private int lineFacts;
        private int first;
        private int row;

        void read(byte[] from, int many, int sort) {
            tape = from;
            length = Math.min(many, from.length);
            at = 0;
            fault = 0;
            place = NONE;
            toldFacts = 0;
            town.clear();
            acts.size = 0;
            nextToken();
            boolean goesOn = true;
            for (int left = length; left > 0 && goesOn && token != THE_END; left--) {
                goesOn = readLine(sort);
            }
            if (!goesOn) {
                fault = 1;
                place = start;
            } else if (fault == 0 && sort == TOWN && !town.hasFacts(toldFacts)) {
                fault = 4;
                place = length;
            }
            if (fault == 0 && sort == TOWN) {
                town.followRules();
            }
        }

        private boolean readLine(int sort) {
            Word word = wordAtToken(sort);
            if (word == null) {
                return false;
            }
            openRow(word);
            nextToken();
            int many = 0;
            while (many < length && token == NUMBER && word.signAt(many) != ' ') {
                testNumber(word, many);
                keepNumber(word, many);
                many++;
                nextToken();
            }
            if (token != CLOSE || many < word.numbers.length()) {
                return false;
            }
            nextToken();
            return true;
        }

        private Word wordAtToken(int sort) {
            for (int i = 0; token == LETTERS && i < words.length; i++) {
                Word word = words[i];
                if (word != null && word.sort() == sort && isSpelled(word.spelled)) {
                    return word;
                }
            }
            return null;
        }

        private boolean isSpelled(String word) {
            if (at - start != word.length()) {
                return false;
            }
            for (int i = 0; i < word.length(); i++) {
                if (signAt(start + i) != word.charAt(i)) {
                    return false;
                }
            }
            return true;
        }

        private Rows rowsOf(Word word) {
            if (word.sort() == DAY) {
                return acts;
            }
            if (word == Word.RULE) {
                return town.rules;
            }
            if (word == Word.ONE || word == Word.KNOWS || word == Word.OUT) {
                return town.people;
            }
            if (word == Word.SIGN) {
                return town.signs;
            }
            if (word == Word.MEET) {
                return town.meets;
            }
            if (word == Word.SKILL) {
                return town.skills;
            }
            return word == Word.HURT ? town.hurts : null;
        }

        private void openRow(Word word) {
            Rows rows = rowsOf(word);
            row = NONE;
            lineFacts = 0;
            first = NONE;
            if (rows == null || word == Word.KNOWS || word == Word.OUT) {
                return;
            }
            row = rows.add(word.sort() == DAY ? NONE : 0);
            if (row == NONE) {
                noteFault(3);
            }
            if (word.sort() == DAY) {
                rows.put(row, 0, word.kind);
            }
        }

        private void testNumber(Word word, int many) {
            char sign = word.signAt(many);
            if (!canBe(sign)) {
                noteFault(2);
            } else if (sign == 'u' && many > 3) {
                noteFault(3);
            }
            if (many == 0) {
                first = number;
            }
            if (sign == 'f' || sign == 'u') {
                toldFacts |= 1 << number;
                lineFacts |= 1 << number;
            }
        }

        private boolean canBe(char sign) {
            switch (sign) {
                case 'c': return number >= 1 && number <= MOST_FACTS;
                case 'f': return number < MOST_FACTS;
                case 'u': return number < MOST_FACTS && !isIn(lineFacts, number);
                case 'p': return number < town.people.size;
                case 'o': return number < town.people.size && number != first;
                case 'h': return number >= 1 && number <= LAST_HOUR;
                case 'w': return number < MOST_PEOPLE;
                case 'x': return number < MOST_PEOPLE && number != first;
                default: return true;
            }
        }

        private void noteFault(int found) {
            if (fault == 0) {
                fault = found;
                place = start;
            }
        }

        private void keepNumber(Word word, int many) {
            Rows rows = rowsOf(word);
            if (word == Word.FACTS) {
                town.facts = Math.max(1, Math.min(number, MOST_FACTS));
            } else if (word == Word.PRICE) {
                town.price = number;
            } else if (rows == null) {
                return;
            } else if (word == Word.KNOWS || word == Word.OUT) {
                if (many > 0) {
                    rows.putBit(first, word == Word.KNOWS ? 1 : 2, number);
                }
            } else if (word.sort() == DAY) {
                rows.put(row, many + 1, number);
            } else if (word.more && many > 0) {
                rows.putBit(row, 1, number);
            } else {
                rows.put(row, many, number);
            }
        }

        /** The byte at a place of the text; 0, with which no text goes on, behind its end. */
        private int signAt(int where) {
            return tape != null && where >= 0 && where < length && where < tape.length ? tape[where] : 0;
        }

        private static boolean isLetter(int sign) {
            return sign >= 'a' && sign <= 'z';
        }

        private static boolean isDigit(int sign) {
            return sign >= '0' && sign <= '9';
        }

        private void nextToken() {
            while (at < length && (signAt(at) == 10 || signAt(at) == 32)) {
                at++;
            }
            start = at;
            int sign = signAt(at);
            if (at >= length) {
                token = THE_END;
            } else if (isLetter(sign)) {
                token = LETTERS;
                while (at < length && isLetter(signAt(at))) {
                    at++;
                }
            } else if (isDigit(sign)) {
                readNumber();
            } else {
                token = sign == CLOSE ? CLOSE : BAD;
                at++;
            }
        }

        private void readNumber() {
            number = 0;
            while (at < length && isDigit(signAt(at))) {
                number = at - start < 2 ? number * 10 + signAt(at) - '0' : 0;
                at++;
            }
            token = at - start <= 2 ? NUMBER : BAD;
        }
    }
}
