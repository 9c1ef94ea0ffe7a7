/** Terms 2 to 4, promises 18 to 21, 24 to 27, 32, 36 and 37: what goes, and what there is none of. */
public final class ForgetEdgesTest {
    private static final int WHOLE = 0;
    private static final int LEAST = 1;
    private static final int LATE = 2;
    private static final String ALL = "one 0;knows 0 0 1 2 3 4 5 6 7 8 9;";
    /** Each fact from 1 on follows from the one ahead of it. */
    private static final String CHAIN = "facts 10;rule 1 0;rule 2 1;rule 3 2;rule 4 3;rule 5 4;rule 6 5;rule 7 6;rule 8 7;"
            + "rule 9 8;one 0;knows 0 0;";
    private static final String CHAIN_BACK = "facts 10;rule 9 8;rule 8 7;rule 7 6;rule 6 5;rule 5 4;rule 4 3;rule 3 2;rule 2 1;"
            + "rule 1 0;one 0;knows 0 0;";
    /** Each fact follows from the one ahead of it, and 0 from 9. */
    private static final String RING = CHAIN + "rule 0 9;";

    private ForgetEdgesTest() {
    }

    public static void main(String[] args) {
        whole();
        wholeOfTheMind();
        least();
        leastNumber();
        late();
        lateGreatest();
        forgetting();
        goneNone();
        keeps();
        keepsNone();
        rows();
        rowFirst();
        rowNone();
        safe();
        safeNone();
        best();
        bestFirst();
        bestNone();
        gap();
        gapNone();
        pacts();
        pactNone();
        guesses();
        guessNone();
        orders();
        orderNone();
        orderFacts();
        gains();
        gainNone();
        reliefs();
        reliefNone();
        Kit.close();
    }

    private static void gone(ForgetBread x, int fact, int kind, int due) {
        Kit.due("gone " + fact + " " + kind, x.gone(0, -1, 0, 0, fact, kind), due);
    }

    private static void whole() {
        Kit.sentence("Term 2", "it goes, and from all RULES by which something goes and whose FACTS are all in the MIND, all "
                + "of these, again and again.");
        for (String rules : new String[] {CHAIN, CHAIN_BACK}) {
            ForgetBread x = Kit.of(rules);
            for (int fact = 0; fact < 10; fact++) {
                gone(x, fact, WHOLE, (2 << fact) - 1);
            }
        }
        ForgetBread ring = Kit.of(RING);
        for (int fact = 0; fact < 10; fact++) {
            gone(ring, fact, WHOLE, 1023);
        }
        ForgetBread none = Kit.of("facts 10;" + ALL);
        for (int fact = 0; fact < 10; fact++) {
            gone(none, fact, WHOLE, 1 << fact);
        }
        // from all rules, all of these
        ForgetBread all = Kit.of("facts 10;rule 0 1 2 3;rule 0 4 5 6;rule 0 7 8 9;" + ALL);
        gone(all, 0, WHOLE, 1023);
        gone(all, 9, WHOLE, 512);
    }

    private static void wholeOfTheMind() {
        Kit.sentence("Term 2", "and whose FACTS are all in the MIND");
        ForgetBread x = Kit.of("facts 6;rule 0 1 2;rule 0 3 4 5;rule 1 3;one 0;knows 0 0 2 3 4;");
        // 5 is not there, so 3 and 4 go but by other rules: 1 goes, and 3 by it
        gone(x, 0, WHOLE, Kit.set(0, 1, 2, 3));
        gone(x, 4, WHOLE, Kit.set(4));
        // a rule whose fact has gone by now counts still
        ForgetBread gone = Kit.of("facts 3;rule 1 0 2;rule 0 1;one 0;knows 0 0 1 2;");
        gone(gone, 0, WHOLE, 7);
        gone(gone, 1, WHOLE, 7);
        gone(gone, 2, WHOLE, 4);
    }

    private static void least() {
        Kit.sentence("Term 2", "LEAST (1): of CLOSED parts of the MIND that have it not that of the most FACTS stays;");
        ForgetBread chain = Kit.of(CHAIN);
        for (int fact = 0; fact < 10; fact++) {
            gone(chain, fact, LEAST, (2 << fact) - 1);
        }
        ForgetBread ring = Kit.of(RING);
        for (int fact = 0; fact < 10; fact++) {
            gone(ring, fact, LEAST, 1023);
        }
        ForgetBread none = Kit.of("facts 10;" + ALL);
        for (int fact = 0; fact < 10; fact++) {
            gone(none, fact, LEAST, 1 << fact);
        }
        ForgetBread one = Kit.of("facts 1;one 0;knows 0 0;");
        gone(one, 0, LEAST, 1);
        // one fact that is in both rules goes, though two others would be a less number
        ForgetBread both = Kit.of("facts 6;rule 5 0 4;rule 5 1 4;one 0;knows 0 0 1 2 4;");
        gone(both, 5, LEAST, Kit.set(4, 5));
    }

    private static void leastNumber() {
        Kit.sentence("Term 2", "of several that by which the least number (bits) goes.");
        ForgetBread x = Kit.of("facts 10;rule 0 7 8 9;rule 9 1 2;" + ALL);
        gone(x, 0, LEAST, Kit.set(0, 7));
        gone(x, 9, LEAST, Kit.set(9, 1));
        // two go of each: of 2 and 9 or of 3 and 4 the pair of the less number
        ForgetBread pairs = Kit.of("facts 10;rule 9 0 5;rule 9 1 6;" + ALL);
        gone(pairs, 9, LEAST, Kit.set(9, 0, 1));
        ForgetBread high = Kit.of("facts 4;rule 0 2 3;rule 0 1 3;" + "one 0;knows 0 0 1 2 3;");
        gone(high, 0, LEAST, Kit.set(0, 3));
        // the number goes by its highest bits first
        ForgetBread bits = Kit.of("facts 4;rule 3 0 2;rule 2 1;rule 0 2;one 0;knows 0 0 1 2 3;");
        gone(bits, 3, LEAST, 14);
    }

    private static void late() {
        Kit.sentence("Term 2", "LATE (2): it goes; so long as there is a RULE by which something follows that has gone, and "
                + "whose FACTS are all there still: of the first such RULE the FACT of the greatest number goes.");
        for (String rules : new String[] {CHAIN, CHAIN_BACK}) {
            ForgetBread x = Kit.of(rules);
            for (int fact = 0; fact < 10; fact++) {
                gone(x, fact, LATE, (2 << fact) - 1);
            }
        }
        ForgetBread ring = Kit.of(RING);
        for (int fact = 0; fact < 10; fact++) {
            gone(ring, fact, LATE, 1023);
        }
        ForgetBread none = Kit.of("facts 10;" + ALL);
        for (int fact = 0; fact < 10; fact++) {
            gone(none, fact, LATE, 1 << fact);
        }
    }

    private static void lateGreatest() {
        Kit.sentence("Term 2", "of the first such RULE the FACT of the greatest number goes.");
        ForgetBread x = Kit.of("facts 10;rule 0 7 8 9;rule 9 1 2;" + ALL);
        gone(x, 0, LATE, Kit.set(0, 9, 2));
        gone(x, 9, LATE, Kit.set(9, 2));
        // the first rule by its place in the text, though a later one is of the fact that went first
        ForgetBread first = Kit.of("facts 6;rule 5 1 2;rule 5 1 3;rule 3 0;one 0;knows 0 0 1 2 3 5;");
        gone(first, 5, LATE, Kit.set(5, 2, 3, 0));
        ForgetBread other = Kit.of("facts 6;rule 3 0 2;rule 5 1 3;rule 5 1 2;one 0;knows 0 0 1 2 3 5;");
        gone(other, 5, LATE, Kit.set(5, 3, 2));
        // a rule of which a fact has gone is none any more
        ForgetBread still = Kit.of("facts 6;rule 5 3 4;rule 5 2 4;rule 5 1 2;one 0;knows 0 1 2 3 4 5;");
        gone(still, 5, LATE, Kit.set(5, 4, 2));
    }

    private static void forgetting() {
        Kit.sentence("Term 2", "To FORGET a FACT that is in it, by a KIND: WHOLE (0)");
        ForgetBread x = Kit.of("facts 10;rule 9 0 1;one 0;knows 0 0 1;", "whole 0 9;", "least 0 9;", "late 0 9;");
        int[] due = {515, 513, 514};
        for (int kind = 0; kind < 3; kind++) {
            gone(x, 9, kind, due[kind]);
            Kit.due("the mind behind the act", x.state(0, kind, 1, 10), 515 & ~due[kind]);
        }
    }

    private static void goneNone() {
        Kit.sentence("Promise 18", "GONE (bits) by a KIND, 0 .. 2. NONE: he has it not, as evening(), or none such (of any).");
        String town = "facts 9;rule 8 0 1;";
        String each = "knows # 0 1;";
        int[] due = {259, 257, 258};
        for (int kind = 0; kind < 3; kind++) {
            int by = kind;
            Edge.states((x, t, d, n, p) -> x.gone(t, d, n, p, 8, by), true, due[kind], -1, town, each);
        }
        ForgetBread x = Edge.towns(town, each);
        for (int fact = 2; fact < 8; fact++) {
            Kit.due("he has it not", x.gone(0, 0, 1, 1, fact, 0), -1);
        }
        Edge.outside("fact", f -> x.gone(0, 0, 1, 1, f, 1), -1, 9);
        Edge.none("kind", kind -> x.gone(0, 0, 1, 1, 8, kind), -1, -1, -2, 3, 4, 32, 33, 34, 256, 65536);
        // a number of which 32 or 64 are too many is no fact, though shifts wrap
        Edge.none("fact that wraps", f -> x.gone(0, 0, 1, 1, f, 0), -1, 40, 32, -32, 72, 64, -24, -56);
    }

    private static void keeps(ForgetBread x, int gone, int kept, int due) {
        Kit.due("keeps " + gone + " " + kept, x.keeps(0, -1, 0, 0, gone, kept), due);
    }

    private static void keeps() {
        Kit.sentence("Term 3", "KEEPS: of CLOSED parts of his MIND that have none of some FACTS, and all of others: that of the "
                + "most FACTS; of several that by which the least number goes.");
        ForgetBread x = Kit.of("facts 10;rule 9 0 1;rule 8 9;one 0;knows 0 0 1 2 3;");
        int mind = 783;
        keeps(x, 0, 0, mind);
        keeps(x, 0, mind, mind);
        keeps(x, 0, 1, mind);
        keeps(x, mind, 0, 0);
        keeps(x, 512, 0, mind & ~513);
        keeps(x, 256, 0, mind & ~(256 | 512 | 1));
        keeps(x, 256, 1, mind & ~(256 | 512 | 2));
        keeps(x, 256, 3, -1);
        keeps(x, 256, 512, -1);
        // what he has not can go, but can't be kept
        keeps(x, 16, mind, mind);
        keeps(x, 240, 0, mind);
        keeps(x, 0, 16, -1);
        keeps(x, 0, mind | 16, -1);
        // none and all of one fact can't be
        for (int fact = 0; fact < 10; fact++) {
            keeps(x, 1 << fact, 1 << fact, -1);
        }
        keeps(x, 1023, 1, -1);
        keeps(x, 1, 1023, -1);
        keeps(x, 1023, 0, 0);
        ForgetBread none = Kit.of("one 0;");
        keeps(none, 0, 0, 0);
        keeps(none, 63, 0, 0);
        keeps(none, 0, 1, -1);
    }

    private static void keepsNone() {
        Kit.sentence("Promise 19", "NONE: none is so, as evening(), or there are no such FACTS.");
        Edge.states((x, t, d, n, p) -> x.keeps(t, d, n, p, 4, 1), true, 1, -1, "rule 2 0 1;", "knows # 0 1;");
        for (int facts = 1; facts <= 10; facts++) {
            int all = (1 << facts) - 1;
            ForgetBread x = Kit.of("facts " + facts + ";one 0;" + "knows 0 0;");
            Kit.due("all facts gone", x.keeps(0, -1, 0, 0, all, 0), 0);
            Kit.due("all facts gone but one", x.keeps(0, -1, 0, 0, all - 1, 1), 1);
            Edge.notSets("gone", set -> x.keeps(0, -1, 0, 0, set, 0), -1, facts);
            Edge.notSets("kept", set -> x.keeps(0, -1, 0, 0, 0, set), -1, facts);
        }
    }

    private static void row(ForgetBread x, int gone, int kept, int... due) {
        String call = "row " + gone + " " + kept;
        Kit.due(call, x.row(0, -1, 0, 0, gone, kept, 0), due.length);
        for (int i = 0; i < due.length; i++) {
            Kit.due(call + ", loaf " + i, x.row(0, -1, 0, 0, gone, kept, 10 + i), due[i]);
        }
        Kit.due(call + ", behind the last loaf", x.row(0, -1, 0, 0, gone, kept, 10 + due.length), -1);
        Kit.due(call + ", ahead of the first loaf", x.row(0, -1, 0, 0, gone, kept, 9), -1);
    }

    private static void rows() {
        Kit.sentence("Term 3", "ROW: the fewest LOAVES, each a FACT of what is his MIND then, by LEAST, by which he has none of "
                + "some FACTS, and all of others;");
        ForgetBread x = Kit.of("facts 10;" + ALL);
        row(x, 0, 0);
        row(x, 0, 1023);
        row(x, 512, 0, 9);
        row(x, 1, 1022, 0);
        row(x, 1023, 0, 0, 1, 2, 3, 4, 5, 6, 7, 8, 9);
        row(x, 1022, 1, 1, 2, 3, 4, 5, 6, 7, 8, 9);
        ForgetBread chain = Kit.of(CHAIN);
        // the last loaf takes all
        row(chain, 1023, 0, 9);
        row(chain, 1, 0, 0);
        row(chain, 3, 0, 1);
        row(chain, 3, 1020, 1);
        row(chain, 1, 1022, 0);
        ForgetBread none = Kit.of("one 0;");
        row(none, 63, 0);
        row(none, 0, 0);
    }

    private static void rowFirst() {
        Kit.sentence("Term 3", "of several the first by rows of FACTS.");
        ForgetBread x = Kit.of("facts 6;rule 5 0 1;rule 5 2 3;one 0;knows 0 0 1 2 3;");
        // by least of 5 it takes 0 and 2 with it
        row(x, 32, 0, 5);
        row(x, Kit.set(0, 2, 5), 0, 5);
        row(x, 32, 5, 1, 3, 5);
        row(x, 32, 1, 1, 5);
        row(x, 32, 4, 3, 5);
        row(x, Kit.set(1, 5), 0, 1, 5);
        // of two ways of one loaf the least fact
        ForgetBread two = Kit.of("facts 4;rule 1 0;rule 2 1;one 0;knows 0 0;");
        row(two, 1, 0, 0);
        row(two, 3, 0, 1);
        row(two, 7, 0, 2);
    }

    private static void rowNone() {
        Kit.sentence("Promise 20", "ROW, what 0: how many, 10 + i: the FACT of LOAF i. NONE: as keeps(), or for another what.");
        String town = "rule 2 0 1;";
        Edge.states((x, t, d, n, p) -> x.row(t, d, n, p, 4, 1, 0), true, 2, -1, town, "knows # 0 1;");
        Edge.states((x, t, d, n, p) -> x.row(t, d, n, p, 4, 1, 11), true, 2, -1, town, "knows # 0 1;");
        ForgetBread x = Edge.towns(town, "knows # 0 1;");
        for (int what : new int[] {0, 10, 11}) {
            Kit.due("none is so", x.row(0, 0, 1, 1, 4, 3, what), -1);
            Kit.due("none and all of one", x.row(0, 0, 1, 1, 4, 4, what), -1);
            Kit.due("what he has not", x.row(0, 0, 1, 1, 0, 8, what), -1);
        }
        Edge.none("what", what -> x.row(0, 0, 1, 1, 4, 1, what), -1, -1, -2, -10, 1, 2, 9, 12, 13, 20, 21, 32, 42, 43, 256, 266,
                65546, Edge.MIN + 9, Edge.MIN + 10, Edge.MAX - 9);
        // of all the 1024 minds to which loaves lead none is so
        ForgetBread all = Kit.of("facts 10;" + ALL);
        for (int set : new int[] {1, 2, 512, 513, 1022, 1023}) {
            Kit.due("none of all minds", all.row(0, -1, 0, 0, set, set, 0), -1);
            Kit.due("none of all minds", all.row(0, -1, 0, 0, 1023, set, 10), -1);
            Kit.due("none of all minds", all.row(0, -1, 0, 0, set, 1023, 19), -1);
            Kit.due("the last of them", all.row(0, -1, 0, 0, 1023, 0, 19), 9);
        }
        for (int facts = 1; facts <= 10; facts += 3) {
            ForgetBread y = Kit.of("facts " + facts + ";one 0;" + "knows 0 0;");
            Kit.due("all facts gone", y.row(0, -1, 0, 0, (1 << facts) - 1, 0, 0), 1);
            Edge.notSets("gone", set -> y.row(0, -1, 0, 0, set, 0, 0), -1, facts);
            Edge.notSets("kept", set -> y.row(0, -1, 0, 0, 0, set, 0), -1, facts);
        }
    }

    private static void safe(ForgetBread x, int day, int n, int fact, int... due) {
        String call = "safe " + day + " " + n + " " + fact;
        Kit.due(call, x.safe(0, day, n, 0, fact, 0), due.length);
        for (int i = 0; i < due.length; i++) {
            Kit.due(call + ", loaf " + i, x.safe(0, day, n, 0, fact, 10 + i), due[i]);
        }
        Kit.due(call + ", behind the last loaf", x.safe(0, day, n, 0, fact, 10 + due.length), -1);
        Kit.due(call + ", ahead of the first loaf", x.safe(0, day, n, 0, fact, 9), -1);
    }

    private static void safe() {
        Kit.sentence("Term 3", "SAFE: likewise the fewest by which, eaten at once, he has a FACT not, nor in the EVENING (all "
                + "others being as they are).");
        ForgetBread x = Kit.of("facts 6;rule 5 0 1;rule 4 1 2;one 0;one 0;knows 0 0 1 3;knows 1 3;out 0 9;sign 9 2;sign 9 0;",
                "hour;".repeat(9), "half 0 3;");
        safe(x, -1, 0, 3, 3);
        safe(x, -1, 0, 1, 1);
        // 0 comes again at 9, so 1 must go, too
        safe(x, -1, 0, 5, 1, 5);
        // 4 comes but of 1
        safe(x, -1, 0, 4, 1);
        Kit.due("what is seen again is not safe", x.safe(0, -1, 0, 0, 0, 0), -1);
        Kit.due("what is seen again is not safe", x.safe(0, -1, 0, 0, 2, 10), -1);
        // at 9 nothing comes
        safe(x, 0, 9, 0, 0);
        safe(x, 0, 9, 5, 5);
        safe(x, 0, 9, 2, 2);
        // a half comes back
        Kit.due("a half", x.safe(0, 1, 1, 0, 3, 0), -1);
        safe(x, 1, 1, 1, 1);
        ForgetBread none = Kit.of("one 0;one 0;knows 1 0;");
        safe(none, -1, 0, 0);
        // he tells it to one who tells him again: not, if he eats at once
        ForgetBread told = Kit.of("facts 1;one 0;one 0;knows 0 0;meet 0 1 1 0;meet 1 0 9 0;", "hour;");
        safe(told, -1, 0, 0, 0);
        Kit.due("behind 1 it is too late", told.safe(0, 0, 1, 0, 0, 0), -1);
        // at 9 he sees 8, and 9 would follow with any of eight others: all of these must go
        ForgetBread eight = Kit.of("facts 10;rule 9 8 0;rule 9 8 1;rule 9 8 2;rule 9 8 3;rule 9 8 4;rule 9 8 5;rule 9 8 6;rule 9 8 7;"
                + "one 0;knows 0 0 1 2 3 4 5 6 7;out 0 9;sign 9 8;");
        safe(eight, -1, 0, 9, 0, 1, 2, 3, 4, 5, 6, 7);
        Kit.due("none for 8", eight.safe(0, -1, 0, 0, 8, 0), -1);
        // one loaf by least takes all
        ForgetBread nine = Kit.of("facts 10;rule 9 0;rule 9 1;rule 9 2;rule 9 3;rule 9 4;rule 9 5;rule 9 6;rule 9 7;rule 9 8;"
                + ALL);
        safe(nine, -1, 0, 9, 9);
    }

    private static void safeNone() {
        Kit.sentence("Promise 21", "SAFE, what as row(). NONE: by none, as evening(), or none such (of any).");
        Edge.states((x, t, d, n, p) -> x.safe(t, d, n, p, 8, 0), true, 1, -1, "facts 9;sign 9 0;", "knows # 0 8;out # 9;");
        Edge.states((x, t, d, n, p) -> x.safe(t, d, n, p, 8, 10), true, 8, -1, "facts 9;sign 9 0;", "knows # 0 8;out # 9;");
        ForgetBread x = Edge.towns("facts 9;sign 9 0;", "knows # 0 8;out # 9;");
        Kit.due("by none", x.safe(0, 0, 1, 1, 0, 0), -1);
        Kit.due("by none", x.safe(0, 0, 1, 1, 0, 10), -1);
        Edge.outside("fact", f -> x.safe(0, 0, 1, 1, f, 0), -1, 9);
        Edge.none("what", what -> x.safe(0, 0, 1, 1, 8, what), -1, -1, -2, -10, 1, 2, 9, 11, 12, 20, 32, 42, 256, 266, 65546,
                Edge.MIN + 10, Edge.MAX - 9);
        Edge.none("what, by no loaves", what -> x.safe(0, 0, 1, 1, 5, what), -1, -1, 1, 9, 10, 11, Edge.MIN + 10);
        Kit.due("no loaves", x.safe(0, 0, 1, 1, 5, 0), 0);
    }

    private static void best(ForgetBread x, int m, int worth, int... row) {
        String call = "best " + m;
        Kit.due(call + ", worth", x.best(0, -1, 0, 0, m, 1), worth);
        Kit.due(call, x.best(0, -1, 0, 0, m, 0), row.length);
        for (int i = 0; i < row.length; i++) {
            Kit.due(call + ", loaf " + i, x.best(0, -1, 0, 0, m, 10 + i), row[i]);
        }
        Kit.due(call + ", behind the last loaf", x.best(0, -1, 0, 0, m, 10 + row.length), -100000);
        Kit.due(call + ", ahead of the first loaf", x.best(0, -1, 0, 0, m, 9), -100000);
    }

    private static void best() {
        Kit.sentence("Term 3", "BEST of m LOAVES at most, 0 .. 3, each by LEAST: the MIND of the most WORTH;");
        ForgetBread x = Kit.of("facts 10;" + ALL + "hurt 1 0;hurt 2 1;hurt 3 2;hurt 4 3;hurt 5 9;skill 2 4;");
        best(x, 0, -13);
        best(x, 1, -8, 9);
        best(x, 2, -4, 3, 9);
        best(x, 3, -1, 2, 3, 9);
        Kit.due("gap of 0", x.gap(0, -1, 0, 0, 0), 15);
        Kit.due("gap of 3", x.gap(0, -1, 0, 0, 3), 3);
        ForgetBread most = Kit.of("one 0;one 0;knows 0 0;" + "skill 99 0;".repeat(6));
        best(most, 3, 594);
        ForgetBread least = Kit.of("facts 6;rule 1 0;rule 0 1;rule 2 0;rule 0 2;one 0;knows 0 0;" + "hurt 99 0 1 2;".repeat(6));
        best(least, 0, -594);
        best(least, 1, 0, 0);
        ForgetBread none = Kit.of("one 0;skill 9 0;");
        best(none, 0, 0);
        best(none, 3, 0);
    }

    private static void bestFirst() {
        Kit.sentence("Term 3", "of several by the fewest LOAVES, then the first row.");
        ForgetBread same = Kit.of("facts 4;one 0;knows 0 0 1 2 3;skill 0 0;");
        for (int m = 0; m < 4; m++) {
            best(same, m, 0);
        }
        // 3 alone does as 0 and 1 together; of two of one loaf the first
        ForgetBread few = Kit.of("facts 4;one 0;knows 0 0 1 2 3;hurt 4 0 3;hurt 4 1 3;");
        best(few, 1, 0, 3);
        best(few, 3, 0, 3);
        ForgetBread row = Kit.of("facts 4;one 0;knows 0 0 1 2 3;hurt 4 2 3;hurt 4 0 1;");
        best(row, 1, -4, 0);
        best(row, 2, 0, 0, 2);
        best(row, 3, 0, 0, 2);
    }

    private static void bestNone() {
        Kit.sentence("Promise 24", "-100000: as evening(), another m, or for another what.");
        String town = "hurt 5 0;skill 2 1;";
        String each = "knows # 0 1;";
        Edge.states((x, t, d, n, p) -> x.best(t, d, n, p, 3, 0), true, 1, -100000, town, each);
        Edge.states((x, t, d, n, p) -> x.best(t, d, n, p, 3, 1), true, 2, -100000, town, each);
        Edge.states((x, t, d, n, p) -> x.best(t, d, n, p, 1, 10), true, 0, -100000, town, each);
        ForgetBread x = Edge.towns(town, each);
        for (int what : new int[] {0, 1, 10}) {
            Edge.none("m", m -> x.best(0, 0, 1, 1, m, what), -100000, -1, -2, 4, 5, 10, 32, 33, 35, 256, 65536);
        }
        Edge.none("what", what -> x.best(0, 0, 1, 1, 3, what), -100000, -1, -2, -10, 2, 3, 9, 11, 12, 13, 20, 32, 42, 256, 266,
                65546, Edge.MIN + 10, Edge.MAX - 9);
        Edge.none("what of no loaves", what -> x.best(0, 0, 1, 1, 0, what), -100000, -1, 2, 9, 10, 11);
    }

    private static void gap() {
        Kit.sentence("Term 3", "GAP: the most WORTH of any CLOSED part of his MIND, less that of BEST.");
        ForgetBread x = Kit.of("facts 10;" + ALL + "hurt 99 0;hurt 99 1;hurt 99 2;hurt 99 3;hurt 99 4;hurt 99 5;");
        int[] due = {594, 495, 396, 297};
        for (int m = 0; m < 4; m++) {
            Kit.due("gap of " + m, x.gap(0, -1, 0, 0, m), due[m]);
        }
        // the mind itself, and the empty part
        ForgetBread all = Kit.of("facts 10;" + ALL + "skill 99 0 9;");
        ForgetBread empty = Kit.of("facts 10;" + CHAIN.substring(9) + "hurt 99 9;");
        for (int m = 0; m < 4; m++) {
            Kit.due("nothing is better", all.gap(0, -1, 0, 0, m), 0);
            Kit.due("nothing stays", empty.gap(0, -1, 0, 0, m), m == 0 ? 99 : 0);
        }
        ForgetBread gaps = Kit.of("facts 10;rule 9 4 6;one 0;knows 0 0 2 4 6 9;hurt 20 0 2;hurt 9 9;skill 5 6;skill 4 0;hurt 7 2 4;");
        Kit.due("worth", gaps.worth(0, -1, 0, 0, 0), -27);
        int[] its = {36, 9, 0, 0};
        for (int m = 0; m < 4; m++) {
            Kit.due("gap of " + m, gaps.gap(0, -1, 0, 0, m), its[m]);
        }
        ForgetBread none = Kit.of("one 0;skill 9 0;hurt 9 1;");
        Kit.due("no facts", none.gap(0, -1, 0, 0, 0), 0);
    }

    private static void gapNone() {
        Kit.sentence("Promise 25", "GAP. NONE: as evening(), or another m.");
        Edge.states((x, t, d, n, p) -> x.gap(t, d, n, p, 0), true, 5, -1, "hurt 5 0;", "knows # 0 1;");
        Edge.states((x, t, d, n, p) -> x.gap(t, d, n, p, 3), true, 0, -1, "hurt 5 0;", "knows # 0 1;");
        ForgetBread x = Edge.towns("hurt 5 0;", "knows # 0 1;");
        Edge.none("m", m -> x.gap(0, 0, 1, 1, m), -1, -1, -2, 4, 5, 10, 32, 33, 35, 256, 65536);
    }

    private static void pacts() {
        Kit.sentence("Term 3", "PACT of a FACT that he has: he eats it, by LEAST, and so do some others who have it: of sets "
                + "(bits) of these that of the fewest, so that he has it not in the EVENING; of several the least number.");
        String four = "knows # 0;";
        ForgetBread all = Kit.of(Edge.alike(5, "", four) + "meet 1 0 1 0;meet 2 0 2 0;meet 3 0 3 0;meet 4 0 9 0;", "hour;".repeat(9));
        Kit.due("all four others", all.pact(0, -1, 0, 0, 0), 30);
        Kit.due("at 1", all.pact(0, 0, 1, 0, 0), 28);
        Kit.due("at 8", all.pact(0, 0, 8, 0, 0), 16);
        Kit.due("at 9", all.pact(0, 0, 9, 0, 0), 0);
        Kit.due("none need", all.pact(0, -1, 0, 4, 0), 0);
        // the fewest: four alone, though one and two together would be a less number
        ForgetBread few = Kit.of(Edge.alike(5, "rule 3 0 1;rule 3 1 2;", "") + "knows 0 3;knows 4 1;knows 1 0;knows 2 2;"
                + "meet 1 0 1 0;meet 2 0 2 2;meet 4 0 3 1;");
        Kit.due("nobody has it but him", few.pact(0, -1, 0, 0, 3), -1);
        ForgetBread least = Kit.of(Edge.alike(4, "", four) + "meet 1 2 1 0;meet 2 0 9 0;meet 3 2 2 0;");
        Kit.due("three people", least.pact(0, -1, 0, 0, 0), 14);
        ForgetBread alone = Kit.of("one 0;knows 0 0;");
        Kit.due("he alone", alone.pact(0, -1, 0, 0, 0), 0);
    }

    private static void pactNone() {
        Kit.sentence("Promise 26", "PACT (bits). NONE: by none, he has it not, as evening(), or none such.");
        String town = "facts 9;sign 9 0;";
        String each = "knows # 0 8;out # 9;";
        Edge.states((x, t, d, n, p) -> x.pact(t, d, n, p, 8), true, 0, -1, town, each);
        ForgetBread x = Edge.towns(town, each);
        Kit.due("by none", x.pact(1, 0, 1, 4, 0), -1);
        for (int fact = 1; fact < 8; fact++) {
            Kit.due("he has it not", x.pact(1, 0, 1, 4, fact), -1);
        }
        Edge.outside("fact", f -> x.pact(1, 0, 1, 4, f), -1, 9);
        Edge.none("fact that wraps", f -> x.pact(1, 0, 1, 4, f), -1, 40, 72, -24, -56);
        ForgetBread half = Kit.of("one 0;knows 0 0;", "half 0 0;learn 0 0;", "hour;".repeat(9) + "half 0 0;learn 0 0;");
        Kit.due("his half brings it", half.pact(0, 0, 2, 0, 0), -1);
        Kit.due("behind 9 it does not", half.pact(0, 1, 11, 0, 0), 0);
    }

    private static void guess(ForgetBread x, int can, int cannot, int went, int parts, int all) {
        int[] due = {went, parts, all};
        for (int what = 0; what < 3; what++) {
            Kit.due("guess " + can + " " + cannot + " " + what, x.guess(0, -1, 0, 0, can, cannot, what), due[what]);
        }
    }

    private static void guesses() {
        Kit.sentence("Term 3", "GUESS: some SKILLS (bits) he can do, some others he can't: of CLOSED parts of his MIND by which "
                + "that is so, those of the most FACTS: how many FACTS went, how many such parts there are, FACTS (bits) that "
                + "went in all of them.");
        ForgetBread x = Kit.of("facts 10;" + ALL + "skill 1 0;skill 1 1 2;skill 1 3 4 5;skill 1 9;skill 1 0 9;skill 1 8;");
        guess(x, 0, 0, 0, 1, 0);
        guess(x, 63, 0, 0, 1, 0);
        guess(x, 0, 1, 1, 1, 1);
        guess(x, 0, 2, 1, 2, 0);
        guess(x, 0, 4, 1, 3, 0);
        guess(x, 0, 32, 1, 1, 256);
        guess(x, 31, 32, 1, 1, 256);
        guess(x, 0, 63, 5, 6, Kit.set(0, 8, 9));
        guess(x, 1, 16, 1, 1, 512);
        guess(x, 8, 16, 1, 1, 1);
        guess(x, 9, 16, -1, -1, -1);
        for (int skill = 0; skill < 6; skill++) {
            guess(x, 1 << skill, 1 << skill, -1, -1, -1);
        }
        guess(x, 63, 1, -1, -1, -1);
        // by all parts the most: a closed part, and none
        ForgetBread chain = Kit.of(CHAIN + "skill 1 9;skill 1 0;");
        guess(chain, 0, 1, 10, 1, 1023);
        guess(chain, 0, 2, 1, 1, 1);
        guess(chain, 2, 1, -1, -1, -1);
        guess(chain, 1, 2, 1, 1, 1);
        // of a mind with gaps all parts are looked at, too
        ForgetBread gaps = Kit.of("facts 10;rule 9 4 6;one 0;knows 0 0 2 4 6 9;skill 1 0 4;skill 1 2 6;skill 1 9;skill 1 5;");
        guess(gaps, 0, 1, 1, 2, 0);
        guess(gaps, 0, 3, 2, 4, 0);
        guess(gaps, 4, 3, 2, 4, 0);
        guess(gaps, 3, 4, -1, -1, -1);
        guess(gaps, 1, 6, 2, 1, Kit.set(6, 9));
        guess(gaps, 0, 7, 3, 3, 512);
        guess(gaps, 8, 0, -1, -1, -1);
        ForgetBread none = Kit.of("one 0;skill 1 0;");
        guess(none, 0, 1, 0, 1, 0);
        guess(none, 0, 0, 0, 1, 0);
        guess(none, 1, 0, -1, -1, -1);
    }

    private static void guessNone() {
        Kit.sentence("Promise 27", "NONE: none is so, as evening(), there are no such SKILLS, or for another what.");
        int[] due = {1, 2, 0};
        for (int what = 0; what < 3; what++) {
            int of = what;
            Edge.states((x, t, d, n, p) -> x.guess(t, d, n, p, 1, 2, of), true, due[what], -1, "skill 1 0;skill 1 1 2;hurt 1 1;",
                    "knows # 0 1 2;");
        }
        for (int skills = 0; skills <= 6; skills++) {
            // hurts are no skills
            ForgetBread x = Kit.of("one 0;knows 0 0;" + "skill 1 0;".repeat(skills) + "hurt 1 0;".repeat(6));
            int all = (1 << skills) - 1;
            Kit.due("all", x.guess(0, -1, 0, 0, all, 0, 1), 1);
            Kit.due("none of all", x.guess(0, -1, 0, 0, 0, all, 0), skills == 0 ? 0 : 1);
            Edge.notSets("can", set -> x.guess(0, -1, 0, 0, set, 0, 0), -1, skills);
            Edge.notSets("can't", set -> x.guess(0, -1, 0, 0, 0, set, 0), -1, skills);
        }
        ForgetBread x = Kit.of("one 0;knows 0 0;skill 1 0;");
        Edge.none("what", what -> x.guess(0, -1, 0, 0, 0, 1, what), -1, -1, -2, 3, 4, 10, 32, 33, 256, 65536);
    }

    private static void order(ForgetBread x, int facts, int kind, int... due) {
        String call = "order " + facts + " " + kind;
        for (int k = 0; k < due.length; k++) {
            Kit.due(call + ", " + k, x.order(0, -1, 0, 0, facts, kind, k), due[k]);
        }
        Kit.due(call + ", behind the last", x.order(0, -1, 0, 0, facts, kind, due.length), -1);
        Kit.due(call + ", ahead of the first", x.order(0, -1, 0, 0, facts, kind, -1), -1);
    }

    private static void orders() {
        Kit.sentence("Term 4", "ORDER of some FACTS, 1 to 5 that he has, by a KIND: rows in which he FORGETS each, if he has it "
                + "still then, so that his WORTH never falls: the first by rows.");
        ForgetBread x = Kit.of("facts 10;" + ALL + "hurt 2 0;skill 2 0 1;hurt 1 1;hurt 9 9 8;skill 9 8;");
        for (int kind = 0; kind < 3; kind++) {
            order(x, 1, kind, 0);
            order(x, 2, kind);
            order(x, 3, kind, 0, 1);
            order(x, 512, kind, 9);
            order(x, 256, kind, 8);
            // with 9 gone 8 is a skill
            order(x, 768, kind, 8, 9);
            order(x, 124, kind, 2, 3, 4, 5, 6);
            order(x, 252, kind);
            order(x, 1023, kind);
            order(x, 0, kind);
        }
        // falls and stays are told apart: the worth stays as it is by 0
        ForgetBread stays = Kit.of("facts 3;one 0;knows 0 0 1;skill 3 0;hurt 3 0;skill 1 1;");
        order(stays, 1, LEAST, 0);
        order(stays, 2, LEAST);
        order(stays, 3, LEAST);
        // of all 120 rows but the last one will do
        ForgetBread back = Kit.of("facts 5;one 0;knows 0 0 1 2 3 4;skill 1 0 1;hurt 1 1;skill 2 1 2;hurt 2 2;skill 3 2 3;hurt 3 3;"
                + "skill 4 3 4;hurt 4 4;");
        order(back, 31, LEAST, 4, 3, 2, 1, 0);
        order(back, 15, LEAST);
        order(back, 16, LEAST, 4);
        ForgetBread first = Kit.of("facts 5;one 0;knows 0 0 1 2 3 4;skill 1 0;hurt 1 0 1;skill 1 1;hurt 1 1 2;");
        order(first, 7, LEAST, 0, 1, 2);
        order(first, 6, LEAST, 1, 2);
        order(first, 3, LEAST, 0, 1);
        // what has gone by another one is forgotten no more, and does no harm
        ForgetBread gone = Kit.of("facts 3;rule 1 0;one 0;knows 0 0;hurt 5 1;skill 5 0;");
        order(gone, 3, LEAST, 1, 0);
        order(gone, 1, LEAST);
    }

    private static void orderNone() {
        Kit.sentence("Promise 32", "NONE: none is so, they are not 1 to 5 that he has, as evening(), or there is none such (of "
                + "any).");
        Edge.states((x, t, d, n, p) -> x.order(t, d, n, p, 31, 0, 4), true, 4, -1, "facts 9;", "knows # 0 1 2 3 4;");
        Edge.states((x, t, d, n, p) -> x.order(t, d, n, p, 16, 2, 0), true, 4, -1, "facts 9;", "knows # 0 1 2 3 4;");
        ForgetBread x = Edge.towns("facts 9;skill 9 8;", "knows # 0 1 2 3 4 5 8;");
        Kit.due("none is so", x.order(0, 0, 1, 1, 256, 1, 0), -1);
        Kit.due("none is so", x.order(0, 0, 1, 1, 271, 1, 0), -1);
        Kit.due("5", x.order(0, 0, 1, 1, 31, 1, 0), 0);
        Kit.due("6", x.order(0, 0, 1, 1, 63, 1, 0), -1);
        Kit.due("7", x.order(0, 0, 1, 1, 319, 1, 0), -1);
        Kit.due("none of them", x.order(0, 0, 1, 1, 0, 1, 0), -1);
        Kit.due("one that he has not", x.order(0, 0, 1, 1, 64, 1, 0), -1);
        Kit.due("one that he has not among others", x.order(0, 0, 1, 1, 65, 1, 0), -1);
        Edge.none("kind", kind -> x.order(0, 0, 1, 1, 3, kind, 0), -1, -1, -2, 3, 4, 32, 33, 34, 256, 65536);
        Edge.none("k of 2", k -> x.order(0, 0, 1, 1, 3, 1, k), -1, -1, -2, 2, 3, 5, 32, 33, 256, 65536);
        Edge.none("k of 5", k -> x.order(0, 0, 1, 1, 31, 1, k), -1, -1, -2, 5, 6, 10, 32, 37, 256, 65536);
    }

    private static void orderFacts() {
        Kit.sentence("Promise 32", "they are not 1 to 5 that he has");
        for (int facts = 1; facts <= 10; facts += 3) {
            ForgetBread x = Kit.of("facts " + facts + ";one 0;" + "knows 0 0;");
            Kit.due("the only one", x.order(0, -1, 0, 0, 1, 0, 0), 0);
            Edge.notSets("facts", set -> x.order(0, -1, 0, 0, set, 0, 0), -1, facts);
        }
    }

    private static void gains() {
        Kit.sentence("Term 4", "GAIN of a FACT by a KIND: by how much his WORTH is more or less, if he FORGETS it.");
        String all = "one 0;knows 0 0 1;";
        ForgetBread most = Kit.of(all + "hurt 99 0;".repeat(6) + "skill 1 1;");
        ForgetBread least = Kit.of(all + "skill 99 0 1;".repeat(6));
        for (int kind = 0; kind < 3; kind++) {
            Kit.due("the most", most.gain(0, -1, 0, 0, 0, kind), 594);
            Kit.due("less", most.gain(0, -1, 0, 0, 1, kind), -1);
            Kit.due("the least", least.gain(0, -1, 0, 0, 1, kind), -594);
        }
        ForgetBread kinds = Kit.of("facts 4;rule 3 0 1;one 0;knows 0 0 1 2;hurt 4 3;skill 1 0;skill 2 1;");
        int[] due = {1, 3, 2};
        for (int kind = 0; kind < 3; kind++) {
            Kit.due("kind " + kind, kinds.gain(0, -1, 0, 0, 3, kind), due[kind]);
            Kit.due("neither", kinds.gain(0, -1, 0, 0, 2, kind), 0);
        }
    }

    private static void gainNone() {
        Kit.sentence("Promise 36", "GAIN by a KIND. -100000: as gone().");
        String town = "facts 9;skill 9 8;hurt 2 1;";
        for (int kind = 0; kind < 3; kind++) {
            int by = kind;
            Edge.states((x, t, d, n, p) -> x.gain(t, d, n, p, 8, by), true, -9, -100000, town, "knows # 1 8;");
        }
        ForgetBread x = Edge.towns(town, "knows # 1 8;");
        for (int fact = 0; fact < 8; fact++) {
            Kit.due("he has it not", x.gain(0, 0, 1, 1, fact, 0), fact == 1 ? 2 : -100000);
        }
        Edge.outside("fact", f -> x.gain(0, 0, 1, 1, f, 1), -100000, 9);
        Edge.none("fact that wraps", f -> x.gain(0, 0, 1, 1, f, 0), -100000, 40, 33, -31, 72, 65, -24, -56);
        Edge.none("kind", kind -> x.gain(0, 0, 1, 1, 8, kind), -100000, -1, -2, 3, 4, 32, 33, 34, 256, 65536);
    }

    private static void relief(ForgetBread x, int fact, int kind) {
        Kit.due("relief", x.relief(0, -1, 0, 0, false), fact);
        Kit.due("its kind", x.relief(0, -1, 0, 0, true), kind);
    }

    private static void reliefs() {
        Kit.sentence("Term 4", "RELIEF: the FACT of his MIND and the KIND with the greatest GAIN, above 0; of several the least "
                + "FACT, then the least KIND.");
        String all = "facts 10;one 0;knows 0 0 1 2 9;";
        relief(Kit.of(all + "hurt 1 9;"), 9, 0);
        relief(Kit.of(all + "hurt 1 9;hurt 1 2;"), 2, 0);
        relief(Kit.of(all + "hurt 2 9;hurt 1 2;"), 9, 0);
        relief(Kit.of(all + "hurt 1 0;"), 0, 0);
        // not above 0
        relief(Kit.of(all + "hurt 0 0;"), -1, -1);
        relief(Kit.of(all + "hurt 3 0;skill 3 0;"), -1, -1);
        relief(Kit.of(all), -1, -1);
        relief(Kit.of(all + "skill 1 0;"), -1, -1);
        relief(Kit.of(all + "hurt 9 5;"), -1, -1);
        String rule = "facts 4;rule 3 0 1;one 0;knows 0 0 1;hurt 5 3;";
        // by whole 0 and 1 go, by least 0, by late 1
        relief(Kit.of(rule + "skill 1 0;"), 3, 2);
        relief(Kit.of(rule + "skill 1 0;skill 1 1;"), 3, 1);
        relief(Kit.of(rule + "skill 2 0;skill 1 1;"), 3, 2);
        relief(Kit.of(rule + "skill 1 0;skill 2 1;"), 3, 1);
        relief(Kit.of(rule), 3, 0);
        relief(Kit.of(rule + "hurt 1 0;hurt 1 1;"), 3, 0);
        relief(Kit.of(rule + "hurt 1 1;"), 3, 0);
    }

    private static void reliefNone() {
        Kit.sentence("Promise 37", "NONE: none, or as evening().");
        Edge.states((x, t, d, n, p) -> x.relief(t, d, n, p, false), true, 5, -1, "hurt 3 5;", "knows # 0 5;");
        Edge.states((x, t, d, n, p) -> x.relief(t, d, n, p, true), true, 0, -1, "hurt 3 5;", "knows # 0 5;");
        relief(Kit.of("one 0;hurt 9 0;"), -1, -1);
    }
}
