/** Terms 4 and 5, promises 28 to 31, 33, 34, 39 to 42, 44 and 45: what comes, and how it can be kept away. */
public final class LearnEdgesTest {
    private static final String NINE = "hour;".repeat(9);
    private static final String ALL = "0 1 2 3 4 5 6 7 8 9;";

    private LearnEdgesTest() {
    }

    public static void main(String[] args) {
        asks();
        whoms();
        askNone();
        notes();
        noteNone();
        honest();
        honestNone();
        trials();
        trialNone();
        ways();
        waysNone();
        leans();
        leansNone();
        reaches();
        reachNone();
        twins();
        twinsNone();
        roots();
        fresh();
        dooms();
        rootsNone();
        teaches();
        teachNone();
        stays();
        stayNone();
        shuts();
        shutNone();
        Kit.close();
    }

    private static void ask(ForgetBread x, int p, int fact, int facts, int whom) {
        Kit.due("ask " + p + " " + fact, x.ask(0, -1, 0, p, fact, false), facts);
        Kit.due("whom " + p + " " + fact, x.ask(0, -1, 0, p, fact, true), whom);
    }

    private static void asks() {
        Kit.sentence("Term 4", "ASK of a FACT that one has not: the fewest FACTS, each of which some other one has, and he not, "
                + "by which, LEARNT, he has it; of several the least number (bits).");
        ForgetBread x = Kit.of("facts 10;" + "one 0;".repeat(5) + "knows 0 " + ALL + "knows 4 9;");
        for (int fact = 0; fact < 9; fact++) {
            ask(x, 4, fact, 1 << fact, 1);
            ask(x, 1, fact, 1 << fact, 1);
            ask(x, 0, fact, -1, -1);
        }
        ask(x, 4, 9, -1, -1);
        // three facts, which nobody has all, give the fourth, which nobody has
        ForgetBread three = Kit.of("facts 10;rule 9 0 4 8;one 0;one 0;one 0;one 0;knows 1 0;knows 2 4;knows 3 8;");
        ask(three, 0, 9, Kit.set(0, 4, 8), 14);
        ask(three, 1, 9, Kit.set(4, 8), 12);
        ask(three, 1, 0, -1, -1);
        ask(three, 0, 7, -1, -1);
        // the fewest ahead of the least number; of two of one the least
        ForgetBread few = Kit.of("facts 6;rule 5 0 1;rule 5 3;rule 5 4;one 0;one 0;knows 1 0 1;knows 1 3 4;");
        ask(few, 0, 5, 8, 2);
        ForgetBread two = Kit.of("facts 10;rule 9 7 8;rule 9 0 8;rule 9 6 7;one 0;one 0;one 0;one 0;knows 1 7;knows 2 8;"
                + "knows 3 0 6;");
        ask(two, 0, 9, Kit.set(6, 7), 10);
        ask(two, 1, 9, Kit.set(6), 8);
        ask(two, 2, 9, Kit.set(0), 8);
        ask(two, 3, 9, Kit.set(7), 2);
    }

    private static void whoms() {
        Kit.sentence("Term 4", "WHOM: of each of these the least other one who has it (bits).");
        ForgetBread x = Kit.of("facts 6;rule 5 0 1 2;" + "one 0;".repeat(5) + "knows 1 0;knows 2 0 1;knows 3 1 2;knows 4 0 1 2 4;",
                "whole 4 5;");
        // 4 has 5 himself
        ask(x, 0, 5, 32, 16);
        ask(x, 0, 1, 2, 4);
        ask(x, 0, 4, 16, 16);
        ask(x, 1, 0, -1, -1);
        Kit.due("of the state", x.ask(0, 0, 1, 0, 5, false), 7);
        Kit.due("of the state, the least of each", x.ask(0, 0, 1, 0, 5, true), 14);
        Kit.due("he is not asked himself", x.ask(0, 0, 1, 1, 5, true), 12);
        Kit.due("the last one", x.ask(0, 0, 1, 4, 5, true), 14);
    }

    private static void askNone() {
        Kit.sentence("Promise 28", "ASK (bits), or (whom) WHOM. NONE: by none, he has it, as evening(), or none such.");
        ForgetBread x = Kit.of("facts 9;" + "one 0;".repeat(5) + "knows 0 8;", "hour;hour;", "hour;learn 0 9;hour;");
        for (int p = 1; p < 5; p++) {
            for (int n = 0; n < 3; n++) {
                Kit.due("ask of " + p, x.ask(0, 0, n, p, 8, false), 256);
                Kit.due("whom of " + p, x.ask(0, 0, n, p, 8, true), 1);
            }
        }
        for (boolean whom : new boolean[] {false, true}) {
            Kit.due("he has it", x.ask(0, 0, 1, 0, 8, whom), -1);
            Kit.due("by none", x.ask(0, 0, 1, 1, 7, whom), -1);
            Edge.none("town", t -> x.ask(t, 0, 0, 1, 8, whom), -1, -1, 1, 2, 32, 65536);
            Edge.none("day", d -> x.ask(0, d, 0, 1, 8, whom), -1, -2, 2, 3, 32, 65536);
            Edge.none("acts", n -> x.ask(0, 0, n, 1, 8, whom), -1, -1, 3, 4, 32);
            Edge.none("acts behind the stop", n -> x.ask(0, 1, n, 1, 8, whom), -1, -1, 2, 3, 4);
            Edge.outside("one", p -> x.ask(0, 0, 1, p, 8, whom), -1, 5);
            Edge.outside("fact", f -> x.ask(0, 0, 1, 1, f, whom), -1, 9);
        }
    }

    private static void note(ForgetBread x, int fact, int but, int due) {
        Kit.due("note " + fact + " " + but, x.note(0, -1, 0, 0, fact, but), due);
    }

    private static void notes() {
        Kit.sentence("Term 4", "NOTE of a FACT that he has not, but not of another one: the fewest FACTS, it not among them, by "
                + "which, LEARNT, he has it, and the other one not; of several the least number.");
        ForgetBread x = Kit.of("facts 10;rule 9 0 1 2;rule 8 2;rule 9 3 4;rule 9 5 6;rule 7 3;one 0;");
        note(x, 9, 8, Kit.set(3, 4));
        note(x, 9, 7, Kit.set(5, 6));
        note(x, 9, 3, Kit.set(5, 6));
        note(x, 9, 0, Kit.set(3, 4));
        ForgetBread three = Kit.of("facts 10;rule 9 0 1 2;rule 9 3;rule 8 3;one 0;knows 0 5;");
        note(three, 9, 8, Kit.set(0, 1, 2));
        note(three, 9, 7, Kit.set(3));
        note(three, 9, 0, Kit.set(3));
        note(three, 8, 9, -1);
        note(three, 8, 0, Kit.set(3));
        // he has the other one already; nothing gives it
        note(three, 9, 5, -1);
        note(three, 0, 1, -1);
        note(three, 5, 1, -1);
        // what he knows helps
        ForgetBread knows = Kit.of("facts 10;rule 9 0 1 2;rule 8 2;one 0;knows 0 0 1;");
        note(knows, 9, 8, -1);
        note(knows, 9, 7, Kit.set(2));
    }

    private static void noteNone() {
        Kit.sentence("Promise 29", "NOTE (bits). NONE: by none, he has it, as evening(), both are one, or none such (of any).");
        String town = "facts 9;rule 8 0 1;";
        Edge.states((x, t, d, n, p) -> x.note(t, d, n, p, 8, 7), true, 2, -1, town, "knows # 0;");
        ForgetBread x = Edge.towns(town, "knows # 0;");
        for (int fact = 0; fact < 9; fact++) {
            Kit.due("both are one", x.note(0, 0, 1, 1, fact, fact), -1);
            Kit.due("he has it", x.note(0, 0, 1, 1, 0, fact), -1);
            Kit.due("by none", x.note(0, 0, 1, 1, 7, fact), -1);
            Kit.due("8", x.note(0, 0, 1, 1, 8, fact), fact == 0 || fact == 1 || fact == 8 ? -1 : 2);
        }
        Edge.outside("fact", f -> x.note(0, 0, 1, 1, f, 7), -1, 9);
        Edge.outside("but", f -> x.note(0, 0, 1, 1, 8, f), -1, 9);
        Edge.none("both", f -> x.note(0, 0, 1, 1, f, f), -1, -1, 9, 32, 40);
    }

    private static void honest() {
        Kit.sentence("Term 4", "HONEST of some FACTS: those that he has not.");
        ForgetBread x = Kit.of("facts 10;rule 9 0;one 0;one 0;one 0;knows 0 0;knows 1 " + ALL);
        int[] sets = {0, 1, 512, 513, 514, 2, 1022, 1023};
        int[] due = {0, 0, 0, 0, 2, 2, 510, 510};
        for (int i = 0; i < sets.length; i++) {
            Kit.due("honest " + sets[i], x.honest(0, -1, 0, 0, sets[i]), due[i]);
            Kit.due("of who has all", x.honest(0, -1, 0, 1, sets[i]), 0);
            Kit.due("of who has none", x.honest(0, -1, 0, 2, sets[i]), sets[i]);
        }
    }

    private static void honestNone() {
        Kit.sentence("Promise 30", "HONEST (bits). NONE: as evening(), or there are no such FACTS.");
        Edge.states((x, t, d, n, p) -> x.honest(t, d, n, p, 63), true, 62, -1, "", "knows # 0;");
        for (int facts = 1; facts <= 10; facts++) {
            ForgetBread x = Kit.of("facts " + facts + ";one 0;");
            int all = (1 << facts) - 1;
            Kit.due("all", x.honest(0, -1, 0, 0, all), all);
            Edge.notSets("facts", set -> x.honest(0, -1, 0, 0, set), -1, facts);
        }
    }

    private static void trial(ForgetBread x, int facts, int fact, int due) {
        Kit.due("trial " + facts + " " + fact, x.trial(0, -1, 0, 0, facts, fact), due);
    }

    private static void trials() {
        Kit.sentence("Term 4", "TRIAL of some FACTS for one: how many of them, LEARNT by numbers, it takes till he has it (0: he "
                + "has it).");
        ForgetBread x = Kit.of("facts 10;rule 0 9;rule 5 1 2;one 0;");
        trial(x, 1023, 0, 1);
        trial(x, 1023, 9, 10);
        trial(x, 1022, 0, 9);
        trial(x, 512, 0, 1);
        trial(x, 512, 9, 1);
        trial(x, 510, 0, -1);
        trial(x, 1023, 5, 3);
        trial(x, 6, 5, 2);
        trial(x, 2, 5, -1);
        trial(x, 0, 5, -1);
        trial(x, 1, 5, -1);
        ForgetBread has = Kit.of("facts 10;rule 9 0;one 0;knows 0 0;");
        trial(has, 0, 0, 0);
        trial(has, 1023, 0, 0);
        trial(has, 1023, 9, 0);
        trial(has, 0, 9, 0);
        trial(has, 0, 1, -1);
    }

    private static void trialNone() {
        Kit.sentence("Promise 31", "TRIAL. NONE: by none, as honest(), or none such.");
        String town = "facts 9;rule 8 0 7;";
        Edge.states((x, t, d, n, p) -> x.trial(t, d, n, p, 510, 8), true, 7, -1, town, "knows # 0;");
        ForgetBread x = Edge.towns(town, "knows # 0;");
        Kit.due("0", x.trial(0, 0, 1, 1, 0, 0), 0);
        Kit.due("by none", x.trial(0, 0, 1, 1, 127, 8), -1);
        Kit.due("by the last", x.trial(0, 0, 1, 1, 256, 8), 1);
        Edge.notSets("facts", set -> x.trial(0, 0, 1, 1, set, 0), -1, 9);
        Edge.outside("fact", f -> x.trial(0, 0, 1, 1, 511, f), -1, 9);
        Edge.none("fact that wraps", f -> x.trial(0, 0, 1, 1, 511, f), -1, 32, 64, -32, -64);
        ForgetBread ten = Kit.of("facts 10;one 0;");
        Edge.notSets("facts of ten", set -> ten.trial(0, -1, 0, 0, set, 0), -1, 10);
        Edge.outside("fact of ten", f -> ten.trial(0, -1, 0, 0, 1023, f), -1, 10);
    }

    private static void way(ForgetBread x, int fact, int ways, int leans, int needs) {
        Kit.due("ways " + fact, x.ways(0, -1, 0, 0, fact), ways);
        Kit.due("leans " + fact, x.leans(0, -1, 0, 0, fact, false), leans);
        Kit.due("needs " + fact, x.leans(0, -1, 0, 0, fact, true), needs);
    }

    private static void ways() {
        Kit.sentence("Term 4", "WAYS of a FACT: how many sets of FACTS of his MIND, it not among them, there are from which it "
                + "follows (by some RULES), and from no part of which it does.");
        // of nine facts any: nine ways; of nine by three: three ways
        ForgetBread nine = Kit.of("facts 10;rule 9 0;rule 9 1;rule 9 2;rule 9 3;rule 9 4;rule 9 5;rule 9 6;rule 9 7;rule 9 8;one 0;"
                + "knows 0 " + ALL);
        way(nine, 9, 9, 511, 0);
        way(nine, 0, 0, 0, 0);
        ForgetBread three = Kit.of("facts 10;rule 9 0 1 2;rule 9 3 4 5;rule 9 6 7 8;one 0;knows 0 " + ALL);
        way(three, 9, 3, 511, 0);
        // three steps of three: 27 ways
        ForgetBread many = Kit.of("facts 10;rule 9 6 7 8;rule 6 0;rule 6 1;rule 7 2;rule 7 3;rule 8 4;rule 8 5;one 0;knows 0 " + ALL);
        way(many, 9, 27, 511, 0);
        // a rule twice is one way, and a set of which a part will do is none
        ForgetBread twice = Kit.of("facts 6;rule 5 0;rule 5 0;rule 5 0 1;rule 5 2 3;rule 5 2 3 4;one 0;knows 0 0 1 2 3 4;");
        way(twice, 5, 2, Kit.set(0, 2, 3), 0);
        // of his mind alone
        ForgetBread mind = Kit.of("facts 6;rule 5 0;rule 5 1;one 0;knows 0 5;");
        way(mind, 5, 0, 0, 0);
        way(mind, 0, -1, -1, -1);
        // it follows from itself by another one, which is the way
        ForgetBread twins = Kit.of("facts 2;rule 1 0;rule 0 1;one 0;knows 0 0;");
        way(twins, 0, 1, 2, 2);
        way(twins, 1, 1, 1, 1);
    }

    private static void waysNone() {
        Kit.sentence("Promise 33", "WAYS. NONE: he has it not, as evening(), or none such.");
        String town = "facts 9;rule 8 0;rule 8 1;";
        Edge.states((x, t, d, n, p) -> x.ways(t, d, n, p, 8), true, 2, -1, town, "knows # 0 1;");
        ForgetBread x = Edge.towns(town, "knows # 0 1;");
        Kit.due("no ways", x.ways(0, 0, 1, 1, 0), 0);
        for (int fact = 2; fact < 8; fact++) {
            Kit.due("he has it not", x.ways(0, 0, 1, 1, fact), -1);
        }
        Edge.outside("fact", f -> x.ways(0, 0, 1, 1, f), -1, 9);
        Edge.none("fact that wraps", f -> x.ways(0, 0, 1, 1, f), -1, 32, 40, 72, -24, -32);
    }

    private static void leans() {
        Kit.sentence("Term 4", "LEANS: all FACTS (bits) of these sets; NEEDS: those in each of them (none without WAYS).");
        ForgetBread x = Kit.of("facts 10;rule 9 0 1 8;rule 9 0 2 8;rule 9 0 3;rule 7 9;one 0;one 0;knows 0 0 1 2 3 8 6;knows 1 9;");
        way(x, 9, 3, Kit.set(0, 1, 2, 3, 8), 1);
        way(x, 7, 4, Kit.set(0, 1, 2, 3, 8, 9), 0);
        way(x, 6, 0, 0, 0);
        way(x, 5, -1, -1, -1);
        ForgetBread one = Kit.of("facts 10;rule 9 0 1 8;one 0;knows 0 0 1 2 8;");
        way(one, 9, 1, Kit.set(0, 1, 8), Kit.set(0, 1, 8));
    }

    private static void leansNone() {
        Kit.sentence("Promise 34", "LEANS (bits), or (needs) NEEDS. NONE: as ways().");
        String town = "facts 9;rule 8 0 2;rule 8 1 2;";
        Edge.states((x, t, d, n, p) -> x.leans(t, d, n, p, 8, false), true, 7, -1, town, "knows # 0 1 2;");
        Edge.states((x, t, d, n, p) -> x.leans(t, d, n, p, 8, true), true, 4, -1, town, "knows # 0 1 2;");
        ForgetBread x = Edge.towns(town, "knows # 0 1 2;");
        for (boolean needs : new boolean[] {false, true}) {
            Kit.due("no ways", x.leans(0, 0, 1, 1, 0, needs), 0);
            Kit.due("he has it not", x.leans(0, 0, 1, 1, 3, needs), -1);
            Edge.outside("fact", f -> x.leans(0, 0, 1, 1, f, needs), -1, 9);
            Edge.none("fact that wraps", f -> x.leans(0, 0, 1, 1, f, needs), -1, 32, 40, 72, -24, -32);
        }
    }

    private static void reaches() {
        Kit.sentence("Term 5", "REACH of some FACTS: these and all that follows.");
        ForgetBread x = Kit.of("facts 10;rule 9 0 1 2;rule 8 9;rule 7 8 3;");
        int[] sets = {0, 1, 3, 7, 15, 8, 512, 520, 1023};
        int[] due = {0, 1, 3, 775, 911, 8, 768, 904, 1023};
        for (int i = 0; i < sets.length; i++) {
            Kit.due("reach " + sets[i], x.reach(0, sets[i]), due[i]);
        }
        ForgetBread none = Kit.of("facts 10;");
        for (int set = 0; set < 1024; set += 31) {
            Kit.due("without rules " + set, none.reach(0, set), set);
        }
    }

    private static void reachNone() {
        Kit.sentence("Promise 39", "NONE: there is no such TOWN, or there are no such FACTS.");
        Kit.due("no towns", new ForgetBread().reach(0, 0), -1);
        for (int facts = 1; facts <= 10; facts++) {
            ForgetBread x = Kit.of("facts " + facts + ";");
            int all = (1 << facts) - 1;
            Kit.due("all", x.reach(0, all), all);
            Kit.due("none", x.reach(0, 0), 0);
            Edge.notSets("facts", set -> x.reach(0, set), -1, facts);
        }
        ForgetBread x = Kit.of("");
        Edge.none("town", t -> x.reach(t, 1), -1, -1, -2, 1, 2, 32, 65536);
        Kit.due("a second town", Kit.text(x, 0, -1, "rule 1 0;"), 1);
        Kit.due("its reach", x.reach(1, 1), 3);
        Kit.due("that of the first", x.reach(0, 1), 1);
        Edge.none("town of 2", t -> x.reach(t, 1), -1, -1, -2, 2, 3, 32, 33, 65536);
    }

    private static void twins() {
        Kit.sentence("Term 5", "TWINS of a FACT: others (bits) that follow from it alone and from which alone it follows.");
        ForgetBread none = Kit.of("facts 10;rule 1 0;rule 2 1;rule 0 2 3;rule 9 8 7;rule 8 9;rule 7 9;");
        for (int fact = 0; fact < 10; fact++) {
            Kit.due("none of " + fact, none.twins(0, fact), 0);
        }
        StringBuilder ring = new StringBuilder("facts 10;rule 0 9;");
        for (int fact = 1; fact < 10; fact++) {
            ring.append("rule ").append(fact).append(' ').append(fact - 1).append(';');
        }
        ForgetBread all = Kit.of(ring.toString());
        for (int fact = 0; fact < 10; fact++) {
            Kit.due("all but " + fact, all.twins(0, fact), 1023 & ~(1 << fact));
        }
        ForgetBread two = Kit.of("facts 10;rule 9 0;rule 0 9;rule 5 9;");
        Kit.due("the last", two.twins(0, 0), 512);
        Kit.due("the first", two.twins(0, 9), 1);
        Kit.due("one way alone", two.twins(0, 5), 0);
    }

    private static void twinsNone() {
        Kit.sentence("Promise 40", "TWINS (bits). NONE: there is none such (of either).");
        Kit.due("no towns", new ForgetBread().twins(0, 0), -1);
        for (int facts = 1; facts <= 10; facts++) {
            ForgetBread x = Kit.of("facts " + facts + ";");
            Kit.due("the last", x.twins(0, facts - 1), 0);
            Edge.outside("fact", f -> x.twins(0, f), -1, facts);
        }
        ForgetBread x = Kit.of("");
        Edge.none("town", t -> x.twins(t, 0), -1, -1, -2, 1, 2, 32, 65536);
        Kit.due("a second town", Kit.text(x, 0, -1, "rule 1 0;rule 0 1;"), 1);
        Kit.due("its twins", x.twins(1, 0), 2);
        Edge.none("town of 2", t -> x.twins(t, 0), -1, -1, -2, 2, 3, 32, 33, 65536);
    }

    private static void roots(String town, int what, int due) {
        Kit.due("roots " + what + " of " + town, Kit.of(town).roots(0, -1, 0, 0, what), due);
    }

    private static void roots() {
        Kit.sentence("Term 5", "ROOTS of one: the fewest FACTS of his MIND from which all of it follows; of several the least "
                + "number.");
        roots("one 0;", 0, 0);
        roots("facts 10;one 0;knows 0 " + ALL, 0, 1023);
        roots("facts 10;rule 9 0;rule 0 9;one 0;knows 0 9;", 0, 1);
        roots("facts 10;rule 8 9;one 0;knows 0 9;", 0, 512);
        roots("facts 10;rule 8 7 9;one 0;knows 0 8 9;", 0, 768);
        // the fewest: 9 alone, though 0, 1 and 2 together are a less number
        roots("facts 10;rule 9 0 1 2;rule 0 9;rule 1 9;rule 2 9;one 0;knows 0 0 1 2;", 0, 512);
        roots("facts 6;rule 5 0 1;rule 0 5 1;rule 1 5 0;one 0;knows 0 5 0;", 0, 3);
    }

    private static void fresh() {
        Kit.sentence("Term 5", "FRESH of one: FACTS of his MIND that nothing he has else gives back: that he has not again by "
                + "closing, if it alone goes.");
        roots("one 0;", 1, 0);
        roots("facts 10;one 0;knows 0 " + ALL, 1, 1023);
        roots("facts 10;rule 9 0;rule 0 9;one 0;knows 0 9 1;", 1, 2);
        roots("facts 10;rule 9 0;one 0;knows 0 0;", 1, 1);
        roots("facts 10;rule 9 0 1;one 0;knows 0 0 9;", 1, 513);
    }

    private static void dooms() {
        Kit.sentence("Term 5", "DOOM: the FACT of one's MIND by which, FORGOTTEN by WHOLE, most goes; of several the least.");
        roots("one 0;", 2, -1);
        roots("facts 10;one 0;knows 0 " + ALL, 2, 0);
        roots("facts 10;one 0;knows 0 9;", 2, 9);
        roots("facts 10;rule 9 0;one 0;knows 0 0 1;", 2, 9);
        roots("facts 10;rule 9 0;rule 5 1;one 0;knows 0 0 1;", 2, 5);
        roots("facts 10;rule 9 0 2;rule 5 1;one 0;knows 0 0 1 2;", 2, 9);
        roots("facts 10;rule 9 0;rule 0 9;one 0;knows 0 9 1;", 2, 0);
    }

    private static void rootsNone() {
        Kit.sentence("Promise 41", "ROOTS (bits), or (what 1) FRESH, (2) DOOM (NONE without FACTS). -2: as evening(), or another "
                + "what.");
        String town = "facts 9;rule 8 0;";
        int[] due = {3, 3, 8};
        for (int what = 0; what < 3; what++) {
            int of = what;
            Edge.states((x, t, d, n, p) -> x.roots(t, d, n, p, of), true, due[what], -2, town, "knows # 0 1;");
        }
        Edge.states((x, t, d, n, p) -> x.roots(t, d, n, p, 2), true, -1, -2, town, "");
        ForgetBread x = Edge.towns(town, "knows # 0 1;");
        Edge.none("what", what -> x.roots(0, 0, 1, 1, what), -2, -1, -2, 3, 4, 10, 32, 33, 34, 256, 65536);
    }

    private static void teach(ForgetBread x, int p, int other, int due) {
        Kit.due("teach " + p + " " + other, x.teach(0, -1, 0, p, other), due);
    }

    private static void teaches() {
        Kit.sentence("Term 5", "TEACH: the fewest FACTS of one, by which, LEARNT, another one has all that he has; of several the "
                + "least number.");
        ForgetBread x = Kit.of("facts 10;rule 9 0;rule 0 9;rule 8 6 7;" + "one 0;".repeat(5) + "knows 0 " + ALL
                + "knows 1 9;knows 3 6;knows 4 " + ALL);
        teach(x, 0, 2, 255);
        teach(x, 0, 1, 254);
        teach(x, 0, 3, 191);
        teach(x, 0, 4, 0);
        teach(x, 4, 0, 0);
        teach(x, 2, 0, 0);
        teach(x, 2, 3, 0);
        teach(x, 1, 2, 1);
        teach(x, 3, 2, 64);
        teach(x, 4, 3, 191);
        // what the other one has helps: he needs but one of three
        ForgetBread helps = Kit.of("facts 6;rule 5 0 1 2;one 0;one 0;knows 0 5 2;knows 1 0 1;");
        teach(helps, 0, 1, 4);
        teach(helps, 1, 0, 3);
        // the fewest: 5 alone, though 0 and 1 are a less number
        ForgetBread few = Kit.of("facts 6;rule 5 0 1;rule 0 5;rule 1 5;one 0;one 0;knows 0 0 1;");
        teach(few, 0, 1, 32);
    }

    private static void teachNone() {
        Kit.sentence("Promise 42", "TEACH (bits). NONE: both are one, as evening(), or none such.");
        Edge.states((x, t, d, n, p) -> x.teach(t, d, n, p, p == 0 ? 1 : 0), true, 0, -1, "", "knows # 0;");
        ForgetBread x = Edge.towns("", "knows # 0;");
        for (int p = 0; p < 5; p++) {
            int of = p;
            for (int other = 0; other < 5; other++) {
                Kit.due("of five", x.teach(1, 0, 1, p, other), p == other ? -1 : 0);
                Kit.due("of two", x.teach(0, 0, 1, p, other), p == other || p > 1 || other > 1 ? -1 : 0);
            }
            Edge.outside("another one", other -> x.teach(1, 0, 1, of, other), -1, 5);
        }
        Edge.outside("both", other -> x.teach(1, 0, 1, other, other), -1, 5);
    }

    private static void stay(ForgetBread x, int day, int n, int fact, int due) {
        Kit.due("stay " + day + " " + n + " " + fact, x.stay(0, day, n, 0, fact), due);
    }

    private static void stays() {
        Kit.sentence("Term 5", "STAY of one and a FACT: the fewest of his HOURS (bits; to come) that he must not be OUT, so that he "
                + "has it not in the EVENING; of several the least number.");
        StringBuilder nine = new StringBuilder("facts 10;rule 0 1 2;one 0;out 0 1 2 3 4 5 6 7 8 9;");
        for (int hour = 1; hour < 10; hour++) {
            nine.append("sign ").append(hour).append(" 9;");
        }
        ForgetBread all = Kit.of(nine + "sign 1 1;sign 9 2;sign 2 2;", NINE, NINE + "least 0 9;least 0 0;");
        stay(all, -1, 0, 9, 1022);
        stay(all, -1, 0, 8, 0);
        stay(all, -1, 0, 0, 2);
        stay(all, -1, 0, 1, 2);
        stay(all, -1, 0, 2, 516);
        stay(all, 0, 1, 9, -1);
        stay(all, 0, 1, 0, 516);
        stay(all, 0, 8, 8, 0);
        stay(all, 0, 9, 8, 0);
        stay(all, 0, 9, 9, -1);
        stay(all, 1, 10, 9, 0);
        stay(all, 1, 11, 0, 0);
        ForgetBread late = Kit.of("facts 3;rule 2 0 1;one 0;out 0 1 8 9;sign 8 0;sign 9 1;sign 1 1;", "hour;".repeat(8));
        // 8 alone, though 1 and 9 together would do
        stay(late, -1, 0, 2, 256);
        stay(late, -1, 0, 1, 514);
        stay(late, 0, 7, 2, 256);
        stay(late, 0, 7, 0, 256);
        stay(late, 0, 8, 2, -1);
        // hours when he is not out are none of his
        ForgetBread other = Kit.of("facts 3;one 0;one 0;out 1 1;sign 1 0;meet 1 0 2 0;");
        stay(other, -1, 0, 0, -1);
        stay(other, -1, 0, 1, 0);
    }

    private static void stayNone() {
        Kit.sentence("Promise 44", "STAY (bits). NONE: by none, as evening(), or none such.");
        String town = "facts 9;sign 9 8;";
        Edge.states((x, t, d, n, p) -> x.stay(t, d, n, p, 8), true, 512, -1, town, "knows # 0;out # 9;");
        ForgetBread x = Edge.towns(town, "knows # 0;out # 9;");
        Kit.due("he has it", x.stay(1, 0, 1, 4, 0), -1);
        Kit.due("it does not come", x.stay(1, 0, 1, 4, 7), 0);
        Edge.outside("fact", f -> x.stay(1, 0, 1, 4, f), -1, 9);
        ForgetBread half = Kit.of("one 0;knows 0 0;", "half 0 0;");
        Kit.due("by none: the half brings it", half.stay(0, 0, 1, 0, 0), -1);
    }

    private static void shut(ForgetBread x, int day, int n, int fact, int due) {
        Kit.due("shut " + day + " " + n + " " + fact, x.shut(0, day, n, 0, fact), due);
    }

    private static void shuts() {
        Kit.sentence("Term 5", "SHUT: likewise the fewest MEETINGS (bits; to come) that must not be.");
        String two = "facts 4;one 0;one 0;knows 1 0 1;rule 3 1 2;";
        ForgetBread all = Kit.of(two + "meet 1 0 1 0;meet 1 0 2 0;meet 1 0 3 0;meet 1 0 4 0;meet 1 0 5 0;meet 1 0 6 0;"
                + "meet 1 0 7 0;meet 1 0 8 0;meet 1 0 9 0;meet 1 0 9 0;meet 1 0 9 0;meet 1 0 9 0;", NINE, NINE + "least 0 0;");
        shut(all, -1, 0, 0, 4095);
        shut(all, -1, 0, 1, 0);
        shut(all, 0, 1, 0, -1);
        shut(all, 0, 9, 0, -1);
        shut(all, 1, 10, 0, 0);
        ForgetBread last = Kit.of(two + "meet 0 1 9 3;".repeat(11) + "meet 1 0 9 0;", "hour;".repeat(8));
        shut(last, -1, 0, 0, 2048);
        shut(last, 0, 8, 0, 2048);
        // the meeting of an hour that is gone can't be shut any more
        ForgetBread gone = Kit.of(two + "meet 1 0 1 1;meet 1 0 2 2;knows 1 2;", "hour;hour;");
        shut(gone, -1, 0, 3, 1);
        shut(gone, 0, 1, 3, 2);
        shut(gone, 0, 1, 1, -1);
        shut(gone, 0, 2, 3, -1);
        // the fewest: the last one alone, though the first two are a less number
        ForgetBread few = Kit.of("facts 1;one 0;one 0;one 0;knows 1 0;meet 1 2 1 0;meet 1 2 2 0;meet 2 0 3 0;");
        shut(few, -1, 0, 0, 4);
    }

    private static void shutNone() {
        Kit.sentence("Promise 45", "SHUT (bits). NONE: as stay().");
        String town = "facts 9;sign 9 8;";
        Edge.states((x, t, d, n, p) -> x.shut(t, d, n, p, 7), true, 0, -1, town, "knows # 0;out # 9;");
        ForgetBread x = Edge.towns(town, "knows # 0;out # 9;");
        Kit.due("he has it", x.shut(1, 0, 1, 4, 0), -1);
        Kit.due("he sees it", x.shut(1, 0, 1, 4, 8), -1);
        Edge.outside("fact", f -> x.shut(1, 0, 1, 4, f), -1, 9);
        ForgetBread half = Kit.of("one 0;knows 0 0;", "half 0 0;");
        Kit.due("by none: the half brings it", half.shut(0, 0, 1, 0, 0), -1);
        ForgetBread none = Kit.of("one 0;");
        Kit.due("no meetings", none.shut(0, -1, 0, 0, 0), 0);
    }
}
