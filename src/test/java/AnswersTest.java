/** The sentences that name no edge: what is answered, of one town and one day that a reader can go through by hand. */
public final class AnswersTest {
    /** Of 0 and 1 follows 4, of that 5; of 2 and 3 follows 6. */
    private static final String TOWN = "facts 7;rule 4 0 1;rule 5 4;rule 6 2 3;one 30;one 60;one 0;knows 0 0 1 2;knows 1 3;"
            + "knows 2 6;out 1 2 7;sign 2 2;sign 7 1;meet 0 1 3 5;meet 2 0 5 6;skill 12 5;skill 7 2 0;hurt 20 4 2;hurt 3 6;"
            + "price 6;";
    private static final String DAY = "hour;hour;half 0 5;learn 2 3;hour;least 1 6;";
    private static final int ACTS = 6;

    private AnswersTest() {
    }

    public static void main(String[] args) {
        lines();
        days();
        evenings();
        worths();
        whatGoes();
        loaves();
        guesses();
        orders();
        whoKnows();
        seeds();
        hours();
        Kit.close();
    }

    private static ForgetBread story() {
        return Kit.of(TOWN, DAY);
    }

    /** The answers of what 0, 1, 2 .., or of people, facts, kinds 0, 1, 2 .. */
    private static void due(String call, Edge.Of asked, int... answers) {
        for (int i = 0; i < answers.length; i++) {
            Kit.due(call + ", " + i, asked.at(i), answers[i]);
        }
    }

    private static void lines() {
        ForgetBread x = Kit.of("facts 7;one 8;one 9;knows 1 6 5;out 0 3 4;knows 0 2;out 1 1;sign 5 6;sign 6 5;", "ask 3 4 2;");
        Kit.sentence("Term 1", "| 'knows' NUMBER NUMBER {NUMBER} | 'out' NUMBER NUMBER {NUMBER}");
        due("the first one", what -> x.person(0, 0, what), 8, 4, 24);
        due("the second one", what -> x.person(0, 1, what), 9, 96, 2);
        Kit.sentence("Term 1", "one: TASTE;");
        Kit.due("the first taste", x.person(0, 0, 0), 8);
        Kit.due("the second taste", x.person(0, 1, 0), 9);
        Kit.sentence("Term 1", "sign: HOUR, FACT;");
        due("the first sign", what -> x.sign(0, 0, what), 5, 6);
        due("the second sign", what -> x.sign(0, 1, what), 6, 5);
        Kit.sentence("Term 1", "ask: one, whom, another one, a FACT).");
        due("the act", what -> x.act(0, 0, what), 5, 3, 4, 2);
        Kit.sentence("Term 1", "2 a NUMBER that can't be (as above;");
        String[] wrong = {"facts 0;", "facts 11;", "rule 10 1;", "rule 1 10;", "sign 0 1;", "sign 10 1;", "sign 1 10;"};
        int[] places = {6, 6, 5, 7, 5, 5, 7};
        for (int i = 0; i < wrong.length; i++) {
            Kit.fault(0, wrong[i], 2, places[i]);
        }
        Kit.sentence("Term 1", "If there is none of these, at the end's place: 4 of a TOWN a FACT that was told of");
        Kit.fault(0, "facts 2;sign 1 2; \n", 4, 19);
        Kit.fault(0, "facts 2;sign 1 2; \nsign 0 0;", 2, 24);
    }

    private static void days() {
        ForgetBread x = story();
        Kit.sentence("Promise 13", "STOP.");
        Kit.due("stop", x.stop(0, 0), ACTS);
        Kit.due("a day of one hour", Kit.text(x, 1, -1, "hour;late 1 2;hour;"), 1);
        Kit.due("stop: 1 has 2 behind the second hour alone", x.stop(0, 1), 1);
        Kit.sentence("Promise 14", "WHEN.");
        due("0 and a fact", fact -> x.when(0, 0, 0, fact), 2, -1, -1, -1, 2, 2, -1);
        due("1 and a fact", fact -> x.when(0, 0, 1, fact), -1, -1, 5, -1, -1, -1, 5);
        due("2 and a fact", fact -> x.when(0, 0, 2, fact), -1, -1, -1, -1, -1, -1, -1);
        Kit.sentence("Term 2", "A STATE of a TOWN is what is behind the first n ACTS of a DAY");
        due("mind of 0", n -> x.state(0, 0, n, 10), 55, 55, 55, 6, 6, 6, 6);
        due("mind of 1", n -> x.state(0, 0, n, 11), 8, 8, 76, 76, 76, 76, 8);
        due("mind of 2", n -> x.state(0, 0, n, 12), 64, 64, 64, 64, 72, 72, 72);
        due("half of 0", n -> x.state(0, 0, n, 20), 0, 0, 0, 49, 49, 49, 49);
        due("loaves of 1", n -> x.state(0, 0, n, 31), 0, 0, 0, 0, 0, 0, 1);
        due("hour", n -> x.state(0, 0, n, 0), 0, 1, 2, 2, 2, 3, 3);
        due("coin", n -> x.state(0, 0, n, 2), 0, 0, 0, 6, 6, 6, 12);
    }

    private static void evenings() {
        ForgetBread x = story();
        Kit.sentence("Promise 16", "One's MIND in the EVENING.");
        due("evening of 0", n -> x.evening(0, 0, n, 0), 119, 119, 119, 119, 119, 119, 119);
        due("evening of 1", n -> x.evening(0, 0, n, 1), 110, 110, 110, 78, 78, 78, 10);
        due("evening of 2", n -> x.evening(0, 0, n, 2), 64, 64, 64, 64, 72, 72, 72);
        Kit.sentence("Promise 23", "FINDS (bits).");
        due("at first", p -> x.finds(0, -1, 0, p), 64, 102, 0);
        due("behind all acts", p -> x.finds(0, 0, ACTS, p), 113, 2, 0);
        Kit.sentence("Promise 35", "SPREAD (bits).");
        due("at first", fact -> x.spread(0, -1, 0, fact), 1, 3, 3, 2, 1, 3, 7);
        due("behind all acts", fact -> x.spread(0, 0, ACTS, fact), 1, 3, 1, 6, 1, 1, 5);
    }

    private static void worths() {
        ForgetBread x = story();
        Kit.sentence("Promise 17", "WORTH of one's MIND, or (what 1) SKILLS (bits) that he can do, (2) HURTS (bits) whose FACTS "
                + "he has all.");
        due("0 at first", what -> x.worth(0, -1, 0, 0, what), -1, 3, 1);
        due("1 behind the sign", what -> x.worth(0, 0, 2, 1, what), -3, 0, 2);
        due("0 behind his half", what -> x.worth(0, 0, 3, 0, what), 0, 0, 0);
        Kit.sentence("Promise 37", "RELIEF: the FACT, or (kind) the KIND.");
        Kit.due("the fact: late of 4 leaves both skills", x.relief(0, -1, 0, 0, false), 4);
        Kit.due("the kind", x.relief(0, -1, 0, 0, true), 2);
        Kit.due("the only hurt", x.relief(0, 0, 2, 1, false), 6);
        Kit.due("its least kind", x.relief(0, 0, 2, 1, true), 0);
    }

    private static void whatGoes() {
        ForgetBread x = story();
        Kit.sentence("Term 3", "(Of one in a STATE.) GONE: what goes if he FORGETS a FACT by a KIND.");
        due("4 by a kind", kind -> x.gone(0, -1, 0, 0, 4, kind), 19, 17, 18);
        due("5 by a kind", kind -> x.gone(0, -1, 0, 0, 5, kind), 51, 49, 50);
        due("6 by a kind, of another one", kind -> x.gone(0, -1, 0, 2, 6, kind), 64, 64, 64);
        Kit.sentence("Promise 19", "KEEPS: his MIND then.");
        Kit.due("4 gone and 1 kept", x.keeps(0, -1, 0, 0, 16, 2), 38);
        Kit.due("4 gone", x.keeps(0, -1, 0, 0, 16, 0), 38);
        Kit.due("4 gone and 0 kept", x.keeps(0, -1, 0, 0, 16, 1), 37);
        Kit.due("5 gone and 2 kept", x.keeps(0, -1, 0, 0, 32, 4), 6);
        Kit.sentence("Promise 39", "REACH (bits).");
        due("a set", set -> x.reach(0, set), 0, 1, 2, 51, 4, 5, 6, 55, 8, 9, 10, 59, 76, 77, 78, 127);
    }

    private static void loaves() {
        ForgetBread x = story();
        Kit.sentence("Promise 24", "BEST of m LOAVES, what 0: how many, 1: WORTH, 10 + i: the FACT of LOAF i.");
        int[][] due = {{0, -1}, {1, 12, 2}, {2, 19, 1, 4}, {2, 19, 1, 4}};
        for (int m = 0; m < due.length; m++) {
            for (int i = 0; i < due[m].length; i++) {
                int what = i < 2 ? i : 8 + i;
                Kit.due("best of " + m + ", what " + what, x.best(0, -1, 0, 0, m, what), due[m][i]);
            }
        }
    }

    private static void guesses() {
        ForgetBread x = story();
        Kit.sentence("Promise 27", "GUESS by SKILLS (bits) that he can, can't do, what 0: how many went, 1: how many parts, 2: "
                + "what went in all.");
        due("he can do 0, not 1", what -> x.guess(0, -1, 0, 0, 1, 2, what), 1, 2, 0);
        due("he can do neither", what -> x.guess(0, -1, 0, 0, 0, 3, what), 3, 1, 49);
        due("he can do both", what -> x.guess(0, -1, 0, 0, 3, 0, what), 0, 1, 0);
        due("he can do 1, not 0", what -> x.guess(0, -1, 0, 0, 2, 1, what), 3, 1, 50);
    }

    private static void orders() {
        ForgetBread x = story();
        Kit.sentence("Promise 32", "ORDER by a KIND: the k-th FACT.");
        due("2 and 4 by least", k -> x.order(0, -1, 0, 0, 20, 1, k), 2, 4);
        due("1 and 4 by least: 1 may go first", k -> x.order(0, -1, 0, 0, 18, 1, k), 1, 4);
        due("0 and 1 by least: his worth falls by either row", k -> x.order(0, -1, 0, 0, 3, 1, k), -1, -1);
        due("1, 2 and 5 by whole: with 5 goes 1", k -> x.order(0, -1, 0, 0, 38, 0, k), 5, 1, 2);
        due("4 and 5 by late: with 5 goes 4", k -> x.order(0, -1, 0, 0, 48, 2, k), 5, 4);
    }

    private static void whoKnows() {
        ForgetBread x = story();
        Kit.sentence("Promise 43", "Of a STATE, what 0: SECRETS, 1: BUSY, 2: SILENT (bits).");
        due("at first", what -> x.whole(0, -1, 0, what), 127, 172, 0);
        due("behind all acts", what -> x.whole(0, 0, ACTS, what), 70, 672, 1);
    }

    private static void seeds() {
        ForgetBread x = story();
        Kit.sentence("Promise 38", "DAYS by a SEED, what 0: LOAVES eaten, 1: ALL behind it, 2: ANY, 10 + p: the MIND of one.");
        int[] seeds = {0, 1, 7, -1};
        int[][] first = {{7, 0, 69, 69, 0, 64}, {8, 0, 64, 64, 0, 64}, {8, 0, 97, 33, 0, 64}, {6, 0, 68, 4, 0, 64}};
        int[][] then = {{3, 0, 123, 113, 2, 72}, {4, 0, 123, 51, 0, 72}, {5, 0, 121, 49, 0, 72}, {4, 0, 121, 113, 0, 72}};
        Kit.sentence("Term 4", "DAYS by a SEED, x; a number below n is drawn:");
        for (int i = 0; i < seeds.length; i++) {
            for (int k = 0; k < 6; k++) {
                int what = k < 3 ? k : 7 + k;
                String call = "by the seed " + seeds[i] + ", what " + what;
                Kit.due(call + " at first", x.days(0, 0, 0, seeds[i], what), first[i][k]);
                Kit.due(call + " behind all acts", x.days(0, 0, ACTS, seeds[i], what), then[i][k]);
            }
        }
    }

    private static void hours() {
        ForgetBread x = story();
        Kit.sentence("Promise 46", "KNOWN.");
        due("0 at first", fact -> x.known(0, -1, 0, 0, fact), 10, 10, 10, 0, 10, 10, 5);
        due("1 at first", fact -> x.known(0, -1, 0, 1, fact), 0, 3, 8, 10, 0, 7, 8);
        due("0 behind all acts", fact -> x.known(0, 0, ACTS, 0, fact), 1, 7, 7, 0, 1, 1, 5);
    }
}
