/** Promises 18 to 21, 24, 25, 27, 32, 36 and 37: what goes, and what is best gone. */
public final class ForgetTest {
    private static final String RULES = "facts 7;rule 4 0 1;rule 4 2;rule 5 4;rule 2 5 6;one 0;knows 0 0 1 6;";
    private static final int WHOLE = 0;
    private static final int LEAST = 1;
    private static final int LATE = 2;

    private ForgetTest() {
    }

    public static void main(String[] args) {
        kinds();
        ties();
        kept();
        rows();
        safeRows();
        bests();
        orders();
        gains();
        guesses();
        wrongOnes();
        Kit.close();
    }

    private static void gone(ForgetBread x, int fact, int kind, int due) {
        Kit.due("gone " + fact + " " + kind, x.gone(0, -1, 0, 0, fact, kind), due);
    }

    private static void kinds() {
        ForgetBread x = Kit.of(RULES, "whole 0 4;", "least 0 4;", "late 0 4;");
        Kit.due("mind", x.state(0, -1, 0, 10), 119);
        gone(x, 4, WHOLE, 119);
        gone(x, 4, LEAST, Kit.set(4, 2, 0, 5));
        gone(x, 4, LATE, Kit.set(4, 1, 2, 6));
        gone(x, 6, WHOLE, Kit.set(6));
        gone(x, 6, LEAST, Kit.set(6));
        gone(x, 6, LATE, Kit.set(6));
        // all that 5 comes of goes, though 0 has not led to it but by 4
        gone(x, 5, WHOLE, 119);
        gone(x, 5, LEAST, Kit.set(5, 4, 2, 0));
        gone(x, 5, LATE, Kit.set(5, 4, 1, 2));
        gone(x, 0, WHOLE, Kit.set(0));
        gone(x, 3, WHOLE, -1);
        gone(x, 3, LEAST, -1);
        Kit.due("whole", x.state(0, 0, 1, 10), 0);
        Kit.due("least", x.state(0, 1, 1, 10), Kit.set(1, 6));
        Kit.due("late", x.state(0, 2, 1, 10), Kit.set(0, 5));
        // by whole a rule counts whose facts were in the mind, though one of them has gone by now
        ForgetBread ring = Kit.of("facts 3;rule 0 1;rule 1 0 2;one 0;knows 0 0 2;");
        gone(ring, 0, WHOLE, 7);
        gone(ring, 0, LEAST, 3);
        gone(ring, 0, LATE, 3);
        // and a rule of which one fact is not in the mind leads to nothing
        ForgetBread half = Kit.of("facts 4;rule 0 1 3;rule 0 2;one 0;knows 0 0 1 2;");
        gone(half, 0, WHOLE, Kit.set(0, 2));
        gone(half, 0, LEAST, Kit.set(0, 2));
        gone(half, 0, LATE, Kit.set(0, 2));
    }

    private static void ties() {
        // any one of 1, 2, 3 is enough: by least the least number goes, by late the greatest
        ForgetBread x = Kit.of("facts 4;rule 0 1 2 3;one 0;knows 0 1 2 3;");
        gone(x, 0, LEAST, Kit.set(0, 1));
        gone(x, 0, LATE, Kit.set(0, 3));
        gone(x, 0, WHOLE, 15);
        // by late the first rule is first, by least one fact of both is enough
        ForgetBread two = Kit.of("facts 4;rule 0 1 2;rule 0 1 3;one 0;knows 0 1 2 3;");
        gone(two, 0, LEAST, Kit.set(0, 1));
        gone(two, 0, LATE, Kit.set(0, 2, 3));
        // the order of the rules is that of the text
        ForgetBread late = Kit.of("facts 5;rule 0 3 4;rule 0 2 4;rule 4 2;one 0;knows 0 2 3;");
        gone(late, 0, LATE, Kit.set(0, 4, 2));
        gone(late, 0, LEAST, Kit.set(0, 2, 3));
        ForgetBread none = Kit.of("facts 2;one 0;knows 0 1;");
        for (int kind = 0; kind < 3; kind++) {
            gone(none, 1, kind, 2);
            gone(none, 0, kind, -1);
        }
    }

    private static void keeps(ForgetBread x, int gone, int kept, int due) {
        Kit.due("keeps " + gone + " " + kept, x.keeps(0, -1, 0, 0, gone, kept), due);
    }

    private static void kept() {
        ForgetBread x = Kit.of(RULES);
        keeps(x, 0, 0, 119);
        keeps(x, 0, 119, 119);
        keeps(x, 8, 119, 119);
        keeps(x, 0, 8, -1);
        keeps(x, 16, 0, Kit.set(1, 6));
        keeps(x, 16, 1, Kit.set(0, 6));
        keeps(x, 16, 3, -1);
        keeps(x, 16, Kit.set(0, 5), Kit.set(0, 5));
        keeps(x, 16, 16, -1);
        keeps(x, 127, 0, 0);
        keeps(x, 119, 1, -1);
        keeps(x, 64, 1, Kit.set(0, 1, 2, 4, 5));
        for (int set : new int[] {128, -1, 256, Integer.MIN_VALUE, Integer.MAX_VALUE}) {
            keeps(x, set, 0, -1);
            keeps(x, 0, set, -1);
        }
    }

    private static void row(ForgetBread x, int gone, int kept, int... due) {
        String call = "row " + gone + " " + kept;
        Kit.due(call, x.row(0, -1, 0, 0, gone, kept, 0), due.length);
        for (int i = 0; i < due.length; i++) {
            Kit.due(call + " " + i, x.row(0, -1, 0, 0, gone, kept, 10 + i), due[i]);
        }
        Kit.due(call + " behind it", x.row(0, -1, 0, 0, gone, kept, 10 + due.length), -1);
    }

    private static void noRow(ForgetBread x, int gone, int kept) {
        for (int what : new int[] {0, 10, 11}) {
            Kit.due("row " + gone + " " + kept, x.row(0, -1, 0, 0, gone, kept, what), -1);
        }
    }

    private static void rows() {
        ForgetBread x = Kit.of(RULES);
        row(x, 0, 0);
        row(x, 0, 119);
        row(x, 16, 0, 4);
        row(x, 1, 0, 0);
        // by least of 2 the fact 6 goes, too, once 0 has gone
        row(x, Kit.set(0, 6), 0, 0, 2);
        noRow(x, 16, 16);
        noRow(x, 0, 8);
        noRow(x, 128, 0);
        noRow(x, -1, 0);
        noRow(x, 0, 128);
        noRow(x, 0, -1);
        // 4 alone takes 0 with it; who would keep 0 eats 1 first
        row(x, 16, 1, 1, 4);
        row(x, 16, Kit.set(1, 6), 4);
        for (int what : new int[] {1, 2, 9, -1, 12, Integer.MIN_VALUE, Integer.MAX_VALUE}) {
            Kit.due("row what", x.row(0, -1, 0, 0, 16, 1, what), -1);
        }
        ForgetBread free = Kit.of("facts 10;one 0;knows 0 0 1 2 3 4 5 6 7 8 9;");
        row(free, 1023, 0, 0, 1, 2, 3, 4, 5, 6, 7, 8, 9);
        row(free, 682, 341, 1, 3, 5, 7, 9);
    }

    private static void safe(ForgetBread x, int p, int fact, int... due) {
        String call = "safe " + p + " " + fact;
        Kit.due(call, x.safe(0, -1, 0, p, fact, 0), due.length);
        for (int i = 0; i < due.length; i++) {
            Kit.due(call + " " + i, x.safe(0, -1, 0, p, fact, 10 + i), due[i]);
        }
        Kit.due(call + " behind it", x.safe(0, -1, 0, p, fact, 10 + due.length), -1);
    }

    private static void safeRows() {
        // 2 comes of 0 and 1, and nought sees 0 again at 5; he tells one at 3, who tells him at 7
        ForgetBread x = Kit.of("facts 4;rule 2 0 1;one 0;one 0;knows 0 0 1 3;knows 1 0;out 0 5;sign 5 0;"
                + "meet 0 1 3 3;meet 1 0 7 3;meet 1 0 9 0;", "half 0 1;", "hour;".repeat(9));
        safe(x, 0, 2, 1, 2);
        safe(x, 0, 3, 3);
        safe(x, 0, 1, 1);
        safe(x, 1, 1);
        Kit.due("he sees it again", x.safe(0, -1, 0, 0, 0, 0), -1);
        Kit.due("no row", x.safe(0, -1, 0, 0, 0, 10), -1);
        Kit.due("one is told", x.safe(0, -1, 0, 1, 3, 0), -1);
        Kit.due("the half comes back", x.safe(0, 0, 1, 0, 1, 0), -1);
        Kit.due("the half comes back", x.safe(0, 0, 1, 0, 2, 0), -1);
        Kit.due("at 9", x.safe(0, 1, 9, 0, 0, 0), 1);
        Kit.due("at 9", x.safe(0, 1, 9, 0, 0, 10), 0);
        for (int what : new int[] {1, 9, 12, -1, Integer.MIN_VALUE, Integer.MAX_VALUE}) {
            Kit.due("safe what", x.safe(0, -1, 0, 0, 2, what), -1);
        }
        for (int fact : new int[] {-1, 4, 9, 32, Integer.MIN_VALUE, Integer.MAX_VALUE}) {
            Kit.due("safe fact", x.safe(0, -1, 0, 0, fact, 0), -1);
        }
    }

    private static void best(ForgetBread x, int m, int worth, int... row) {
        Kit.due("best " + m + " worth", x.best(0, -1, 0, 0, m, 1), worth);
        Kit.due("best " + m, x.best(0, -1, 0, 0, m, 0), row.length);
        for (int i = 0; i < row.length; i++) {
            Kit.due("best " + m + " " + i, x.best(0, -1, 0, 0, m, 10 + i), row[i]);
        }
        Kit.due("best " + m + " behind it", x.best(0, -1, 0, 0, m, 10 + row.length), -100000);
    }

    private static void bests() {
        // hurts of 0, of 1 and of both with 2; a skill of 3, which follows from 0
        ForgetBread x = Kit.of("facts 4;rule 3 0;one 0;knows 0 0 1 2;hurt 5 0;hurt 20 1 2;hurt 1 1;hurt 1 2;skill 6 3;");
        best(x, 0, -21);
        best(x, 1, 0, 1);
        best(x, 2, 5, 0, 1);
        best(x, 3, 6, 0, 1, 2);
        Kit.due("gap 0", x.gap(0, -1, 0, 0, 0), 27);
        Kit.due("gap 1", x.gap(0, -1, 0, 0, 1), 6);
        Kit.due("gap 3", x.gap(0, -1, 0, 0, 3), 0);
        for (int m : new int[] {-1, 4, Integer.MIN_VALUE, Integer.MAX_VALUE}) {
            Kit.due("best of " + m, x.best(0, -1, 0, 0, m, 0), -100000);
            Kit.due("gap of " + m, x.gap(0, -1, 0, 0, m), -1);
        }
        for (int what : new int[] {2, 9, -1, 13, Integer.MIN_VALUE, Integer.MAX_VALUE}) {
            Kit.due("best what " + what, x.best(0, -1, 0, 0, 3, what), -100000);
        }
        // of several the fewest loaves: nothing is eaten for nothing
        ForgetBread same = Kit.of("facts 4;one 0;knows 0 0 1 2;hurt 5 0 1;hurt 5 1 2;");
        best(same, 3, 0, 1);
        ForgetBread plain = Kit.of("facts 4;one 0;knows 0 0 1 2;");
        best(plain, 3, 0);
        Kit.due("gap", plain.gap(0, -1, 0, 0, 0), 0);
        // a closed part to which no row of loaves by least leads
        ForgetBread far = Kit.of("facts 3;rule 0 1 2;one 0;knows 0 1 2;hurt 9 0;skill 5 1;skill 3 2;hurt 1 2 1;");
        Kit.due("worth", far.worth(0, -1, 0, 0, 0), -2);
        Kit.due("best", far.best(0, -1, 0, 0, 1, 1), 3);
        Kit.due("best", far.best(0, -1, 0, 0, 2, 1), 5);
        Kit.due("gap", far.gap(0, -1, 0, 0, 1), 2);
        Kit.due("gap", far.gap(0, -1, 0, 0, 2), 0);
    }

    private static void order(ForgetBread x, int facts, int kind, int... due) {
        for (int k = 0; k <= due.length; k++) {
            Kit.due("order " + facts + " " + kind + " " + k, x.order(0, -1, 0, 0, facts, kind, k),
                    k < due.length ? due[k] : -1);
        }
    }

    private static void orders() {
        // 1 alone with 2 hurts; 0 is a skill, but with 2 it hurts more
        ForgetBread x = Kit.of("facts 7;one 0;knows 0 0 1 2 3 4 5 6;skill 4 0;hurt 4 0 2;hurt 3 0 1;skill 3 0 1 2;",
                "learn 0 0;");
        Kit.due("worth", x.worth(0, -1, 0, 0, 0), 0);
        order(x, Kit.set(2), LEAST, 2);
        order(x, Kit.set(0), LEAST, 0);
        order(x, Kit.set(0, 1, 2), WHOLE, 0, 1, 2);
        order(x, Kit.set(3, 4, 5, 6, 2), LATE, 2, 3, 4, 5, 6);
        order(x, Kit.set(1, 2, 3, 4, 5, 6), LEAST);
        order(x, 0, LEAST);
        order(x, 128, LEAST);
        order(x, -1, LEAST);
        for (int kind : new int[] {-1, 3, Integer.MIN_VALUE, Integer.MAX_VALUE}) {
            order(x, 1, kind);
        }
        for (int k : new int[] {-1, 1, 5, Integer.MIN_VALUE, Integer.MAX_VALUE}) {
            Kit.due("order k " + k, x.order(0, -1, 0, 0, 1, LEAST, k), -1);
        }
        // none is so, by any row
        ForgetBread sorry = Kit.of("facts 4;one 0;knows 0 0 1 2;skill 4 0;skill 4 1;hurt 3 2;");
        order(sorry, Kit.set(0, 1, 2), LEAST);
        order(sorry, Kit.set(0), LEAST);
        order(sorry, Kit.set(2), LEAST, 2);
        order(sorry, Kit.set(3), LEAST);
        // 0 must not go ahead of 1, with which it hurts: the worth would fall by the skill
        ForgetBread first = Kit.of("facts 3;one 0;knows 0 0 1 2;skill 5 0;hurt 9 0 1;skill 5 1;hurt 9 1 2;hurt 5 0 2;");
        Kit.due("worth", first.worth(0, -1, 0, 0, 0), -13);
        order(first, Kit.set(0, 1), LEAST, 0, 1);
        order(first, Kit.set(0, 2), LEAST, 0, 2);
        // what has gone with another one is forgotten no more
        ForgetBread with = Kit.of("facts 3;rule 1 0;one 0;knows 0 0 2;hurt 5 0 1;skill 5 0;hurt 1 1;");
        order(with, Kit.set(0, 1), LEAST, 0, 1);
        order(with, Kit.set(0, 1), WHOLE, 0, 1);
        ForgetBread late = Kit.of("facts 3;rule 1 0;one 0;knows 0 0 2;hurt 9 1;skill 5 0;");
        order(late, Kit.set(0, 1), LEAST, 1, 0);
    }

    private static void gains() {
        ForgetBread x = Kit.of(RULES + "hurt 30 4;skill 20 1 2;skill 4 0;hurt 7 6;");
        // by least of 4: 0, 2, 4, 5 go; by late 1, 2, 4, 6; by whole all
        Kit.due("worth", x.worth(0, -1, 0, 0, 0), -13);
        Kit.due("gain", x.gain(0, -1, 0, 0, 4, WHOLE), 13);
        Kit.due("gain", x.gain(0, -1, 0, 0, 4, LEAST), 6);
        Kit.due("gain", x.gain(0, -1, 0, 0, 4, LATE), 17);
        Kit.due("gain", x.gain(0, -1, 0, 0, 0, LEAST), -4);
        Kit.due("gain", x.gain(0, -1, 0, 0, 3, LEAST), -100000);
        // by late of 5: 1, 2, 4, 5 go
        Kit.due("relief", x.relief(0, -1, 0, 0, false), 4);
        Kit.due("relief kind", x.relief(0, -1, 0, 0, true), 2);
        ForgetBread same = Kit.of("facts 3;one 0;knows 0 0 1 2;hurt 5 1 2;");
        Kit.due("the least fact", same.relief(0, -1, 0, 0, false), 1);
        Kit.due("the least kind", same.relief(0, -1, 0, 0, true), 0);
        ForgetBread none = Kit.of("facts 3;one 0;one 0;knows 0 0 1 2;skill 5 1;skill 0 2;");
        Kit.due("none is above 0", none.relief(0, -1, 0, 0, false), -1);
        Kit.due("none is above 0", none.relief(0, -1, 0, 0, true), -1);
        Kit.due("no facts", none.relief(0, -1, 0, 1, false), -1);
    }

    private static void guess(ForgetBread x, int can, int cannot, int went, int parts, int all) {
        int[] due = {went, parts, all};
        for (int what = 0; what < 3; what++) {
            Kit.due("guess " + can + " " + cannot + " " + what, x.guess(0, -1, 0, 0, can, cannot, what), due[what]);
        }
    }

    private static void guesses() {
        // 4 comes of 0 and 1
        ForgetBread x = Kit.of("facts 6;rule 4 0 1;one 0;knows 0 0 1 2 3;skill 1 4;skill 1 0;skill 1 2 3;skill 1 5;");
        guess(x, 0, 0, 0, 1, 0);
        guess(x, 7, 0, 0, 1, 0);
        guess(x, 0, 1, 2, 2, 16);
        guess(x, 2, 1, 2, 1, 18);
        guess(x, 0, 4, 1, 2, 0);
        guess(x, 0, 5, 3, 4, 16);
        guess(x, 2, 5, 3, 2, 18);
        guess(x, 1, 2, 1, 1, 1);
        guess(x, 8, 0, -1, -1, -1);
        guess(x, 1, 1, -1, -1, -1);
        guess(x, 0, 15, 4 - 1, 2, 17);
        guess(x, 16, 0, -1, -1, -1);
        guess(x, 0, 16, -1, -1, -1);
        guess(x, -1, 0, -1, -1, -1);
        guess(x, 0, Integer.MIN_VALUE, -1, -1, -1);
        for (int what : new int[] {-1, 3, Integer.MIN_VALUE, Integer.MAX_VALUE}) {
            Kit.due("guess what", x.guess(0, -1, 0, 0, 0, 0, what), -1);
        }
        ForgetBread none = Kit.of("one 0;knows 0 0;");
        guess(none, 0, 0, 0, 1, 0);
        guess(none, 1, 0, -1, -1, -1);
    }

    private static void wrongOnes() {
        ForgetBread x = Kit.of(RULES, "hour;");
        int[][] none = {{1, -1, 0, 0}, {-1, -1, 0, 0}, {0, 1, 0, 0}, {0, -2, 0, 0}, {0, 0, 2, 0}, {0, 0, -1, 0},
            {0, -1, 1, 0}, {0, 0, 0, 1}, {0, 0, 0, -1}, {0, 0, 0, 5}, {0, 0, 0, Integer.MAX_VALUE},
            {Integer.MIN_VALUE, 0, 0, 0}, {0, Integer.MAX_VALUE, 0, 0}, {0, 0, Integer.MIN_VALUE, 0}};
        for (int[] at : none) {
            int t = at[0];
            int d = at[1];
            int n = at[2];
            int p = at[3];
            Kit.due("gone", x.gone(t, d, n, p, 0, 0), -1);
            Kit.due("keeps", x.keeps(t, d, n, p, 0, 0), -1);
            Kit.due("row", x.row(t, d, n, p, 0, 0, 0), -1);
            Kit.due("safe", x.safe(t, d, n, p, 0, 0), -1);
            Kit.due("best", x.best(t, d, n, p, 0, 0), -100000);
            Kit.due("gap", x.gap(t, d, n, p, 0), -1);
            Kit.due("guess", x.guess(t, d, n, p, 0, 0, 0), -1);
            Kit.due("order", x.order(t, d, n, p, 1, 0, 0), -1);
            Kit.due("gain", x.gain(t, d, n, p, 0, 0), -100000);
            Kit.due("relief", x.relief(t, d, n, p, false), -1);
            Kit.due("relief", x.relief(t, d, n, p, true), -1);
        }
        for (int odd : new int[] {-1, 3, 7, 10, 31, 32, Integer.MIN_VALUE, Integer.MAX_VALUE}) {
            Kit.due("gone fact " + odd, x.gone(0, 0, 0, 0, odd, 0), -1);
            Kit.due("gone kind " + odd, x.gone(0, 0, 0, 0, 0, odd), -1);
            Kit.due("gain fact " + odd, x.gain(0, 0, 0, 0, odd, 0), -100000);
            Kit.due("gain kind " + odd, x.gain(0, 0, 0, 0, 0, odd), -100000);
        }
    }
}
