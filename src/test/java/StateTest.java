/** Promises 13 to 17, 22, 23, 35, 38, 43 and 46: days, states, hours and what is there by evening. */
public final class StateTest {
    private static final int[] ODD = {-2, 5, 99, Integer.MIN_VALUE, Integer.MAX_VALUE};
    /** Facts 0 and 1 give 2, 2 gives 3; 4 and 5 stand alone. */
    private static final String TOWN = "facts 6;rule 2 0 1;rule 3 2;one 0;one 0;one 0;knows 0 0 1;knows 1 4;"
            + "out 1 2 9;out 2 2;sign 2 0;sign 2 1;sign 2 2;sign 9 5;"
            + "meet 0 1 3 3;meet 1 0 4 4;meet 2 0 9 5;meet 1 2 9 5;price 7;skill 10 3;skill 5 4;hurt 3 0 1;";

    private StateTest() {
    }

    public static void main(String[] args) {
        stops();
        losses();
        states();
        wrongStates();
        halves();
        hours();
        newsAndWhole();
        noPeople();
        worths();
        seeded();
        Kit.close();
    }

    private static void stop(String day, int due) {
        Kit.due("stop of " + day, Kit.of(TOWN, day).stop(0, 0), due);
    }

    private static void stops() {
        stop("", 0);
        stop("hour;".repeat(9), 9);
        stop("hour;".repeat(10), 9);
        stop("hour;".repeat(9) + "learn 0 5;", 10);
        for (String eat : new String[] {"whole", "least", "late", "half"}) {
            stop(eat + " 0 3;", 1);
            stop(eat + " 0 4;", 0);
            stop(eat + " 0 3;" + eat + " 0 3;", 1);
            stop(eat + " 3 3;", 0);
            stop(eat + " 0 6;", 0);
        }
        stop("learn 2 5;learn 2 5;", 2);
        stop("learn 2 6;", 0);
        stop("learn 3 5;", 0);
        stop("ask 2 0 3;", 1);
        stop("ask 2 0 4;", 0);
        stop("ask 0 1 4;ask 0 1 4;", 2);
        stop("ask 3 0 3;", 0);
        stop("ask 0 3 3;", 0);
        stop("ask 0 1 9;", 0);
        stop("ask 1 2 4;", 0);
        ForgetBread x = Kit.of(TOWN, "hour;");
        for (int odd : ODD) {
            Kit.due("stop", x.stop(odd, 0), -1);
            Kit.due("stop", x.stop(0, odd), -1);
        }
        Kit.due("stop of no day", x.stop(0, -1), -1);
        Kit.due("stop of no town", x.stop(-1, 0), -1);
    }

    private static void losses() {
        ForgetBread x = Kit.of(TOWN, "hour;learn 2 0;least 0 2;learn 0 2;late 0 2;ask 1 2 4;", "least 0 3;whole 2 5;");
        Kit.due("stop", x.stop(0, 0), 5);
        // by least of 2 the facts 0 and 2 go; learnt again, 2 goes again, and 1 stays
        Kit.due("when", x.when(0, 0, 0, 2), 2);
        Kit.due("when", x.when(0, 0, 0, 0), 2);
        Kit.due("when", x.when(0, 0, 0, 1), -1);
        Kit.due("when", x.when(0, 0, 0, 3), -1);
        Kit.due("never had", x.when(0, 0, 2, 1), -1);
        Kit.due("by least of 3", x.when(0, 1, 0, 3), 0);
        Kit.due("by least of 3", x.when(0, 1, 0, 0), 0);
        for (int odd : ODD) {
            Kit.due("when", x.when(odd, 0, 0, 2), -1);
            Kit.due("when", x.when(0, odd, 0, 2), -1);
            Kit.due("when", x.when(0, 0, odd, 2), -1);
            Kit.due("when", x.when(0, 0, 0, odd == 5 ? 6 : odd), -1);
        }
        Kit.due("when", x.when(0, -1, 0, 2), -1);
        Kit.due("when", x.when(0, 0, -1, 2), -1);
        Kit.due("when", x.when(0, 0, 0, -1), -1);
    }

    private static void states() {
        ForgetBread x = Kit.of(TOWN, "half 0 3;learn 2 0;whole 1 4;hour;hour;ask 2 1 3;");
        int[][] due = {
            // hour, loaves, coin, all, any, lost, minds
            {0, 0, 0, 0, 31, 0, 15, 16, 0},
            {0, 1, 7, 0, 18, 13, 2, 16, 0},
            {0, 1, 7, 0, 19, 12, 2, 16, 1},
            {0, 2, 14, 0, 3, 28, 2, 0, 1},
            {1, 2, 14, 0, 3, 28, 2, 0, 1},
            {2, 2, 14, 2, 15, 16, 2, 15, 15},
            {2, 2, 14, 2, 15, 16, 2, 15, 15}};
        for (int n = 0; n < due.length; n++) {
            for (int what = 0; what < 6; what++) {
                Kit.due("state " + n + " " + what, x.state(0, 0, n, what), due[n][what]);
            }
            for (int p = 0; p < 3; p++) {
                Kit.due("mind " + n + " " + p, x.state(0, 0, n, 10 + p), due[n][6 + p]);
            }
        }
        Kit.due("half", x.state(0, 0, 0, 20), 0);
        Kit.due("half", x.state(0, 0, 1, 20), 13);
        Kit.due("half", x.state(0, 0, 6, 20), 13);
        Kit.due("half of another", x.state(0, 0, 6, 21), 0);
        Kit.due("loaves", x.state(0, 0, 6, 30), 1);
        Kit.due("loaves", x.state(0, 0, 6, 31), 1);
        Kit.due("loaves", x.state(0, 0, 6, 32), 0);
        Kit.due("without a day", x.state(0, -1, 0, 10), 15);
    }

    private static void wrongStates() {
        ForgetBread x = Kit.of(TOWN, "hour;least 2 0;hour;");
        Kit.due("stop", x.stop(0, 0), 1);
        Kit.due("at the stop", x.state(0, 0, 1, 0), 1);
        int[][] none = {{0, 0, 2}, {0, 0, 3}, {0, 0, 4}, {0, 0, -1}, {0, -1, 1}, {0, -1, -1}, {0, 1, 0}, {0, -2, 0},
            {1, -1, 0}, {-1, -1, 0}, {0, 0, Integer.MIN_VALUE}, {0, 0, Integer.MAX_VALUE},
            {Integer.MAX_VALUE, 0, 0}, {0, Integer.MIN_VALUE, 0}};
        for (int[] at : none) {
            Kit.due("state", x.state(at[0], at[1], at[2], 0), -2);
            Kit.due("evening", x.evening(at[0], at[1], at[2], 0), -1);
            Kit.due("worth", x.worth(at[0], at[1], at[2], 0, 0), -100000);
            Kit.due("again", x.again(at[0], at[1], at[2], 0, 0), -1);
            Kit.due("finds", x.finds(at[0], at[1], at[2], 0), -1);
            Kit.due("spread", x.spread(at[0], at[1], at[2], 0), -1);
            Kit.due("days", x.days(at[0], at[1], at[2], 1, 0), -2);
            Kit.due("whole", x.whole(at[0], at[1], at[2], 0), -1);
            Kit.due("known", x.known(at[0], at[1], at[2], 0, 0), -1);
        }
        int[] whats = {7, 8, 9, 13, 14, 15, 19, 23, 29, 33, 39, 40, -1, -10, Integer.MIN_VALUE, Integer.MAX_VALUE};
        for (int what : whats) {
            Kit.due("state what " + what, x.state(0, 0, 0, what), -2);
        }
        for (int p : new int[] {-1, 3, 4, 5, Integer.MIN_VALUE, Integer.MAX_VALUE}) {
            Kit.due("evening", x.evening(0, 0, 0, p), -1);
            Kit.due("worth", x.worth(0, 0, 0, p, 0), -100000);
            Kit.due("again", x.again(0, 0, 0, p, 0), -1);
            Kit.due("finds", x.finds(0, 0, 0, p), -1);
            Kit.due("known", x.known(0, 0, 0, p, 0), -1);
        }
        for (int fact : new int[] {-1, 6, 9, 32, Integer.MIN_VALUE, Integer.MAX_VALUE}) {
            Kit.due("again", x.again(0, 0, 0, 0, fact), -1);
            Kit.due("spread", x.spread(0, 0, 0, fact), -1);
            Kit.due("known", x.known(0, 0, 0, 0, fact), -1);
        }
        for (int what : new int[] {-1, 3, Integer.MIN_VALUE, Integer.MAX_VALUE}) {
            Kit.due("worth what", x.worth(0, 0, 0, 0, what), -100000);
            Kit.due("whole what", x.whole(0, 0, 0, what), -1);
        }
        for (int what : new int[] {-1, 3, 9, 13, 14, 15, 20, 30, Integer.MIN_VALUE, Integer.MAX_VALUE}) {
            Kit.due("days what", x.days(0, 0, 0, 1, what), -2);
        }
    }

    private static void halves() {
        ForgetBread x = Kit.of("facts 4;rule 1 0;rule 3 1 2;one 0;one 0;knows 0 0 2;meet 0 1 9 1;out 1 9;sign 9 0;",
                "half 0 1;" + "hour;".repeat(9) + "half 0 3;", "half 0 2;half 0 3;half 0 0;");
        // 0 and 1 go, 3 stays; the half comes back behind the meetings of the last hour
        Kit.due("mind", x.state(0, 0, 1, 10), 12);
        Kit.due("half", x.state(0, 0, 1, 20), 3);
        Kit.due("at 8", x.state(0, 0, 9, 20), 3);
        Kit.due("at 9", x.state(0, 0, 10, 20), 0);
        Kit.due("at 9", x.state(0, 0, 10, 10), 15);
        Kit.due("evening", x.evening(0, 0, 1, 0), 15);
        Kit.due("news", x.state(0, 0, 1, 6), 1);
        Kit.due("silent", x.whole(0, 0, 1, 2), 1);
        Kit.due("busy", x.whole(0, 0, 1, 1), 512);
        Kit.due("again", x.again(0, 0, 1, 0, 0), 9);
        // at 9 a half stays a half
        Kit.due("stop", x.stop(0, 0), 11);
        Kit.due("mind", x.state(0, 0, 11, 10), 11 & ~8 | 0);
        Kit.due("half", x.state(0, 0, 11, 20), 12);
        Kit.due("evening at 9", x.evening(0, 0, 11, 0), 3);
        Kit.due("finds at 9", x.finds(0, 0, 11, 0), 0);
        Kit.due("spread at 9", x.spread(0, 0, 11, 3), 0);
        // halves come together
        Kit.due("stop", x.stop(0, 1), 3);
        Kit.due("half", x.state(0, 1, 3, 20), 13);
        Kit.due("mind", x.state(0, 1, 3, 10), 2);
    }

    private static void hours() {
        ForgetBread x = Kit.of(TOWN, "hour;hour;hour;hour;hour;hour;hour;hour;hour;");
        Kit.due("evening 0", x.evening(0, -1, 0, 0), 31);
        Kit.due("evening 1", x.evening(0, -1, 0, 1), 63);
        Kit.due("evening 2", x.evening(0, -1, 0, 2), 47);
        Kit.due("finds 0", x.finds(0, -1, 0, 0), 16);
        Kit.due("finds 1", x.finds(0, -1, 0, 1), 47);
        Kit.due("finds 2", x.finds(0, -1, 0, 2), 47);
        Kit.due("finds at 8", x.finds(0, 0, 8, 2), 32);
        Kit.due("finds at 9", x.finds(0, 0, 9, 2), 0);
        Kit.due("again", x.again(0, -1, 0, 0, 3), 0);
        Kit.due("again", x.again(0, 0, 7, 0, 3), 7);
        Kit.due("again", x.again(0, -1, 0, 0, 4), 4);
        Kit.due("again", x.again(0, 0, 3, 0, 4), 4);
        Kit.due("again", x.again(0, 0, 4, 0, 4), 4);
        Kit.due("again", x.again(0, -1, 0, 1, 3), 2);
        Kit.due("again", x.again(0, -1, 0, 2, 5), 9);
        Kit.due("never", x.again(0, -1, 0, 0, 5), -1);
        Kit.due("never at 9", x.again(0, 0, 9, 0, 5), -1);
        Kit.due("known", x.known(0, -1, 0, 0, 0), 10);
        Kit.due("known", x.known(0, -1, 0, 0, 4), 6);
        Kit.due("known", x.known(0, 0, 2, 0, 4), 6);
        Kit.due("known", x.known(0, 0, 6, 0, 4), 4);
        Kit.due("known", x.known(0, 0, 9, 0, 4), 1);
        Kit.due("known", x.known(0, -1, 0, 0, 5), 0);
        Kit.due("known", x.known(0, -1, 0, 2, 5), 1);
        Kit.due("known at 9", x.known(0, 0, 9, 0, 5), 0);
        Kit.due("spread", x.spread(0, -1, 0, 3), 7);
        Kit.due("spread", x.spread(0, -1, 0, 4), 3);
        Kit.due("spread", x.spread(0, -1, 0, 5), 6);
        Kit.due("spread", x.spread(0, 0, 9, 5), 6);
    }

    private static void newsAndWhole() {
        ForgetBread x = Kit.of(TOWN, "hour;hour;hour;hour;");
        // at 2 one and two learn 0 and 1 (2 comes of itself), at 4 nought learns 4, at 9 one 5, and two by one
        Kit.due("news", x.state(0, -1, 0, 6), 7);
        Kit.due("news", x.state(0, 0, 2, 6), 3);
        Kit.due("news", x.state(0, 0, 4, 6), 2);
        Kit.due("secrets", x.whole(0, -1, 0, 0), 31);
        Kit.due("secrets", x.whole(0, 0, 2, 0), 16);
        Kit.due("secrets", x.whole(0, 0, 4, 0), 0);
        Kit.due("busy", x.whole(0, -1, 0, 1), 4 + 16 + 512);
        Kit.due("busy", x.whole(0, 0, 2, 1), 16 + 512);
        Kit.due("busy", x.whole(0, 0, 4, 1), 512);
        Kit.due("silent", x.whole(0, -1, 0, 2), 1 + 4);
        Kit.due("silent", x.whole(0, 0, 3, 2), 1 + 4);
        Kit.due("those of hours that are gone, too", x.whole(0, 0, 4, 2), 1 + 2 + 4);
        ForgetBread order = Kit.of("facts 3;rule 2 1;one 0;one 0;out 0 1;out 1 1;sign 1 2;sign 1 1;meet 0 1 1 1;");
        // sign by sign: 2 is news though 1 would have brought it
        Kit.due("news", order.state(0, -1, 0, 6), 4);
        Kit.due("silent", order.whole(0, -1, 0, 2), 1);
        ForgetBread chain = Kit.of("facts 3;one 0;one 0;one 0;knows 0 0;meet 1 2 5 0;meet 0 1 5 0;meet 1 2 5 0;");
        // meetings of one hour by their numbers
        Kit.due("news", chain.state(0, -1, 0, 6), 2);
        Kit.due("silent", chain.whole(0, -1, 0, 2), 1);
        Kit.due("busy", chain.whole(0, -1, 0, 1), 32);
    }

    private static void noPeople() {
        ForgetBread x = Kit.of("facts 5;sign 1 2;skill 4 1;", "hour;hour;learn 0 1;");
        int[] due = {2, 0, 0, 31, 0, 0, 0};
        for (int what = 0; what < due.length; what++) {
            Kit.due("state " + what, x.state(0, 0, 2, what), due[what]);
        }
        Kit.due("stop", x.stop(0, 0), 2);
        Kit.due("mind", x.state(0, 0, 0, 10), -2);
        Kit.due("evening", x.evening(0, 0, 0, 0), -1);
        Kit.due("spread", x.spread(0, 0, 0, 2), 0);
        Kit.due("whole", x.whole(0, 0, 0, 0), 0);
        Kit.due("whole", x.whole(0, 0, 0, 1), 0);
        Kit.due("whole", x.whole(0, 0, 0, 2), 0);
        Kit.due("days", x.days(0, 0, 0, 3, 0), 0);
        Kit.due("days", x.days(0, 0, 0, 3, 1), 31);
        Kit.due("days", x.days(0, 0, 0, 3, 2), 0);
        Kit.due("days", x.days(0, 0, 0, 3, 10), -2);
    }

    private static void worths() {
        ForgetBread x = Kit.of(TOWN, "learn 0 4;");
        Kit.due("worth", x.worth(0, -1, 0, 0, 0), 7);
        Kit.due("skills", x.worth(0, -1, 0, 0, 1), 1);
        Kit.due("hurts", x.worth(0, -1, 0, 0, 2), 1);
        Kit.due("worth", x.worth(0, 0, 1, 0, 0), 12);
        Kit.due("skills", x.worth(0, 0, 1, 0, 1), 3);
        Kit.due("worth", x.worth(0, -1, 0, 1, 0), 5);
        Kit.due("skills", x.worth(0, -1, 0, 1, 1), 2);
        Kit.due("hurts", x.worth(0, -1, 0, 1, 2), 0);
        Kit.due("worth", x.worth(0, -1, 0, 2, 0), 0);
        ForgetBread low = Kit.of("one 1;knows 0 0 1 2;" + "hurt 99 0 1 2;".repeat(6) + "skill 99 3;");
        Kit.due("below 0", low.worth(0, -1, 0, 0, 0), -594);
        Kit.due("hurts", low.worth(0, -1, 0, 0, 2), 63);
    }

    private static void seeded() {
        // Who has the taste 0 never eats, though a number is drawn for him.
        ForgetBread none = Kit.of("one 0;one 0;knows 0 0 1;knows 1 2;");
        for (int seed : new int[] {0, 1, -1, Integer.MIN_VALUE, Integer.MAX_VALUE}) {
            Kit.due("days 0", none.days(0, -1, 0, seed, 0), 0);
            Kit.due("days 1", none.days(0, -1, 0, seed, 1), 0);
            Kit.due("days 2", none.days(0, -1, 0, seed, 2), 7);
        }
        // Who has but one fact eats at most once, and draws no second number behind it.
        ForgetBread one = Kit.of("facts 1;one 99;knows 0 0;", "hour;".repeat(9), "least 0 0;");
        Kit.due("days 0", one.days(0, -1, 0, 5, 0), 1);
        Kit.due("days 10", one.days(0, -1, 0, 5, 10), 0);
        Kit.due("at 9", one.days(0, 0, 9, 5, 0), 0);
        Kit.due("at 9", one.days(0, 0, 9, 5, 10), 1);
        Kit.due("loaves of the days alone", one.days(0, 1, 1, 5, 0), 0);
        seededByHand();
    }

    /** A seed's numbers, drawn here once more. */
    private static void seededByHand() {
        String town = "facts 8;one 60;one 99;knows 0 0 1 2 3 4 5 6 7;knows 1 0 2 4 6;out 0 8;sign 8 3;";
        ForgetBread x = Kit.of(town);
        for (int seed = -3; seed < 30; seed++) {
            int[] drawn = {seed * 7919};
            int[] minds = {255, 85};
            int[] taste = {60, 99};
            int eaten = 0;
            for (int hour = 1; hour <= 9; hour++) {
                for (int p = 0; p < 2; p++) {
                    if (next(drawn, 100) < taste[p] && minds[p] != 0) {
                        int at = next(drawn, Integer.bitCount(minds[p]));
                        int left = minds[p];
                        for (; at > 0; at--) {
                            left &= left - 1;
                        }
                        minds[p] &= ~(left & -left);
                        eaten++;
                    }
                }
                minds[0] |= hour == 8 ? 8 : 0;
            }
            Kit.due("eaten " + seed, x.days(0, -1, 0, seed * 7919, 0), eaten);
            Kit.due("all " + seed, x.days(0, -1, 0, seed * 7919, 1), minds[0] & minds[1]);
            Kit.due("any " + seed, x.days(0, -1, 0, seed * 7919, 2), minds[0] | minds[1]);
            Kit.due("mind " + seed, x.days(0, -1, 0, seed * 7919, 10), minds[0]);
            Kit.due("mind " + seed, x.days(0, -1, 0, seed * 7919, 11), minds[1]);
        }
        Kit.due("the state stays", x.state(0, -1, 0, 10), 255);
    }

    private static int next(int[] drawn, int n) {
        drawn[0] = drawn[0] * 1103515245 + 12345;
        return (drawn[0] >>> 16) % n;
    }
}
