/** Promises 28 to 31, 33, 34 and 39 to 42: whom to ask, what to note, say, teach, and by which ways it follows. */
public final class LearnTest {
    private LearnTest() {
    }

    public static void main(String[] args) {
        asks();
        notes();
        saysAndTrials();
        ways();
        reachAndTwins();
        roots();
        teaches();
        wrongOnes();
        Kit.close();
    }

    private static void ask(ForgetBread x, int p, int fact, int facts, int whom) {
        Kit.due("ask " + p + " " + fact, x.ask(0, -1, 0, p, fact, false), facts);
        Kit.due("whom " + p + " " + fact, x.ask(0, -1, 0, p, fact, true), whom);
    }

    private static void asks() {
        // 5 comes of 0 and 1, of 2, 3 and 4; 6 of 5
        String rules = "facts 8;rule 5 0 1;rule 5 2 3 4;rule 6 5;";
        ForgetBread x = Kit.of(rules + "one 0;one 0;one 0;one 0;knows 0 7;knows 1 0 2;knows 2 0 1 2;knows 3 4;",
                "whole 2 5;", "whole 2 6;");
        ask(x, 0, 5, Kit.set(5), Kit.set(2));
        ask(x, 0, 6, Kit.set(5), Kit.set(2));
        ask(x, 0, 0, Kit.set(0), Kit.set(1));
        ask(x, 0, 3, -1, -1);
        ask(x, 0, 7, -1, -1);
        ask(x, 1, 6, Kit.set(1), Kit.set(2));
        ask(x, 2, 4, Kit.set(4), Kit.set(3));
        ask(x, 2, 7, Kit.set(7), Kit.set(0));
        ask(x, 3, 3, -1, -1);
        // nobody but three has 5 or 6 by what is left: they must bring it together
        ForgetBread two = Kit.of(rules + "one 0;one 0;one 0;knows 1 0 7;knows 2 1 7;knows 0 2;");
        ask(two, 0, 6, Kit.set(0, 1), Kit.set(1, 2));
        ask(two, 0, 7, Kit.set(7), Kit.set(1));
        // the fewest, and of several the least number: 5 by 2 alone, or by 3 alone
        ForgetBread some = Kit.of("facts 6;rule 5 2;rule 5 3;rule 4 0 1;one 0;one 0;knows 0 0 2 3;", "learn 1 1;");
        ask(some, 1, 5, Kit.set(2), Kit.set(0));
        ask(some, 1, 4, -1, -1);
        Kit.due("4 by 0 alone, of the state", some.ask(0, 0, 1, 1, 4, false), Kit.set(0));
        ForgetBread alone = Kit.of("one 0;knows 0 1;");
        ask(alone, 0, 2, -1, -1);
    }

    private static void note(ForgetBread x, int fact, int but, int due) {
        Kit.due("note " + fact + " " + but, x.note(0, -1, 0, 0, fact, but), due);
    }

    private static void notes() {
        // 4 comes of 0 and 1, or of 2; 5 of 2, and 3 of 1
        ForgetBread x = Kit.of("facts 8;rule 4 0 1;rule 4 2;rule 5 2;rule 3 1;one 0;knows 0 6;");
        note(x, 4, 7, Kit.set(2));
        note(x, 4, 5, Kit.set(0, 1));
        note(x, 4, 2, Kit.set(0, 1));
        note(x, 4, 3, Kit.set(2));
        note(x, 4, 0, Kit.set(2));
        note(x, 4, 6, -1);
        note(x, 4, 4, -1);
        note(x, 6, 4, -1);
        note(x, 0, 4, -1);
        note(x, 5, 4, -1);
        note(x, 5, 3, Kit.set(2));
        note(x, 3, 4, Kit.set(1));
        for (int odd : new int[] {-1, 8, 9, 32, Integer.MIN_VALUE, Integer.MAX_VALUE}) {
            note(x, odd, 1, -1);
            note(x, 4, odd, -1);
        }
    }

    private static void saysAndTrials() {
        ForgetBread x = Kit.of("facts 6;rule 4 0 3;rule 5 4;one 0;one 0;knows 0 0 2;");
        Kit.due("honest", x.honest(0, -1, 0, 0, 63), Kit.set(1, 3, 4, 5));
        Kit.due("honest", x.honest(0, -1, 0, 0, Kit.set(0, 1)), Kit.set(1));
        Kit.due("honest", x.honest(0, -1, 0, 0, 5), 0);
        Kit.due("honest", x.honest(0, -1, 0, 0, 0), 0);
        Kit.due("trial", x.trial(0, -1, 0, 0, 63, 2), 0);
        Kit.due("trial", x.trial(0, -1, 0, 0, 0, 2), 0);
        Kit.due("trial", x.trial(0, -1, 0, 0, 63, 1), 2);
        Kit.due("trial", x.trial(0, -1, 0, 0, 63, 5), 4);
        Kit.due("trial", x.trial(0, -1, 0, 0, Kit.set(3), 5), 1);
        Kit.due("trial", x.trial(0, -1, 0, 0, Kit.set(1, 3, 5), 5), 2);
        Kit.due("trial", x.trial(0, -1, 0, 0, Kit.set(0, 1, 2), 5), -1);
        Kit.due("trial", x.trial(0, -1, 0, 1, Kit.set(0, 1, 3), 5), 3);
        Kit.due("trial", x.trial(0, -1, 0, 1, 0, 5), -1);
        for (int odd : new int[] {-1, 64, 128, 1024, Integer.MIN_VALUE, Integer.MAX_VALUE}) {
            Kit.due("honest", x.honest(0, -1, 0, 0, odd), -1);
            Kit.due("trial", x.trial(0, -1, 0, 0, odd, 0), -1);
            Kit.due("trial", x.trial(0, -1, 0, 0, 63, odd), -1);
        }
    }

    private static void way(ForgetBread x, int fact, int ways, int leans, int needs) {
        Kit.due("ways " + fact, x.ways(0, -1, 0, 0, fact), ways);
        Kit.due("leans " + fact, x.leans(0, -1, 0, 0, fact, false), leans);
        Kit.due("needs " + fact, x.leans(0, -1, 0, 0, fact, true), needs);
    }

    private static void ways() {
        // 4 comes of 0 and 1, or 0 and 2; 5 of 4 and 0; 6 of 7, and 7 of 6
        ForgetBread x = Kit.of("facts 9;rule 4 0 1;rule 4 0 2;rule 5 4 0;rule 6 7;rule 7 6;one 0;one 0;knows 0 0 1 2 6;"
                + "knows 1 4;");
        way(x, 4, 2, Kit.set(0, 1, 2), Kit.set(0));
        way(x, 5, 3, Kit.set(0, 1, 2, 4), Kit.set(0));
        way(x, 6, 1, Kit.set(7), Kit.set(7));
        way(x, 0, 0, 0, 0);
        way(x, 3, -1, -1, -1);
        way(x, 8, -1, -1, -1);
        Kit.due("of one's mind alone", x.ways(0, -1, 0, 1, 4), 0);
        Kit.due("of one's mind alone", x.leans(0, -1, 0, 1, 4, false), 0);
        Kit.due("of one's mind alone", x.leans(0, -1, 0, 1, 4, true), 0);
        ForgetBread apart = Kit.of("facts 5;rule 4 0 1;rule 4 2 3;one 0;knows 0 0 1 2 3;");
        way(apart, 4, 2, 15, 0);
        for (int odd : new int[] {-1, 9, 32, Integer.MIN_VALUE, Integer.MAX_VALUE}) {
            way(x, odd, -1, -1, -1);
        }
    }

    private static void reachAndTwins() {
        ForgetBread x = Kit.of("facts 10;rule 1 0;rule 0 1;rule 2 0;rule 3 2;rule 2 3;rule 4 3;rule 3 4;rule 6 5 7;"
                + "rule 5 6;rule 9 8;rule 8 9 0;");
        Kit.due("reach", x.reach(0, 0), 0);
        Kit.due("reach", x.reach(0, 1), 31);
        Kit.due("reach", x.reach(0, Kit.set(4)), Kit.set(2, 3, 4));
        Kit.due("reach", x.reach(0, Kit.set(6, 8)), Kit.set(5, 6, 8, 9));
        Kit.due("reach", x.reach(0, Kit.set(5, 7)), Kit.set(5, 6, 7));
        Kit.due("reach", x.reach(0, 1023), 1023);
        Kit.due("twins", x.twins(0, 0), Kit.set(1));
        Kit.due("twins", x.twins(0, 1), Kit.set(0));
        Kit.due("twins", x.twins(0, 2), Kit.set(3, 4));
        Kit.due("twins", x.twins(0, 4), Kit.set(2, 3));
        Kit.due("twins", x.twins(0, 5), 0);
        Kit.due("twins", x.twins(0, 8), 0);
        for (int odd : new int[] {-1, 1024, 2048, Integer.MIN_VALUE, Integer.MAX_VALUE}) {
            Kit.due("reach", x.reach(0, odd), -1);
            Kit.due("reach", x.reach(odd, 0), -1);
            Kit.due("twins", x.twins(0, odd), -1);
            Kit.due("twins", x.twins(odd, 0), -1);
        }
        Kit.due("reach", x.reach(1, 0), -1);
        Kit.due("twins", x.twins(1, 0), -1);
        Kit.due("twins", x.twins(0, 10), -1);
    }

    private static void root(ForgetBread x, int p, int roots, int fresh, int doom) {
        Kit.due("roots " + p, x.roots(0, -1, 0, p, 0), roots);
        Kit.due("fresh " + p, x.roots(0, -1, 0, p, 1), fresh);
        Kit.due("doom " + p, x.roots(0, -1, 0, p, 2), doom);
    }

    private static void roots() {
        ForgetBread x = Kit.of("facts 8;rule 1 0;rule 0 1;rule 4 2 3;rule 5 4;rule 4 6;one 0;one 0;one 0;"
                + "knows 0 1 2 3 7;knows 2 6;");
        // of nought: 0 1 2 3 4 5 7; 5 lies on 4, that on 2 and 3
        root(x, 0, Kit.set(0, 2, 3, 7), Kit.set(2, 3, 7), 5);
        root(x, 1, 0, 0, -1);
        root(x, 2, Kit.set(6), Kit.set(6), 5);
        for (int what : new int[] {-1, 3, Integer.MIN_VALUE, Integer.MAX_VALUE}) {
            Kit.due("roots what", x.roots(0, -1, 0, 0, what), -2);
        }
        ForgetBread plain = Kit.of("facts 3;one 0;knows 0 0 1 2;");
        root(plain, 0, 7, 7, 0);
        // the fewest goes ahead of the least number
        ForgetBread few = Kit.of("facts 4;rule 0 3;rule 1 3;rule 2 3;rule 3 0 1 2;one 0;one 0;knows 0 3;");
        root(few, 0, Kit.set(3), 0, 0);
        teach(few, 0, 1, Kit.set(3));
    }

    private static void teach(ForgetBread x, int p, int other, int due) {
        Kit.due("teach " + p + " " + other, x.teach(0, -1, 0, p, other), due);
    }

    private static void teaches() {
        ForgetBread x = Kit.of("facts 7;rule 4 0 1;rule 4 2;rule 5 4;rule 2 5 3;one 0;one 0;one 0;one 0;"
                + "knows 0 0 1;knows 1 3;knows 3 0 6;");
        // nought has 0 1 4 5; one has 3
        teach(x, 0, 1, Kit.set(0, 1));
        teach(x, 0, 2, Kit.set(0, 1));
        teach(x, 0, 3, Kit.set(1));
        teach(x, 1, 0, Kit.set(3));
        teach(x, 2, 0, 0);
        teach(x, 2, 1, 0);
        teach(x, 3, 0, Kit.set(6));
        for (int p = 0; p < 4; p++) {
            teach(x, p, p, -1);
            teach(x, p, 4, -1);
            teach(x, 4, p, -1);
            teach(x, p, -1, -1);
            teach(x, p, Integer.MIN_VALUE, -1);
            teach(x, p, Integer.MAX_VALUE, -1);
        }
    }

    private static void wrongOnes() {
        ForgetBread x = Kit.of("one 0;one 0;knows 1 0;", "hour;ask 0 1 1;");
        int[][] none = {{1, -1, 0, 0}, {-1, -1, 0, 0}, {0, 1, 0, 0}, {0, -2, 0, 0}, {0, 0, 2, 0}, {0, 0, -1, 0},
            {0, -1, 1, 0}, {0, 0, 0, 2}, {0, 0, 0, -1}, {0, 0, 0, 5}, {0, 0, 0, Integer.MAX_VALUE},
            {Integer.MIN_VALUE, 0, 0, 0}, {0, Integer.MAX_VALUE, 0, 0}, {0, 0, Integer.MIN_VALUE, 0}};
        for (int[] at : none) {
            int t = at[0];
            int d = at[1];
            int n = at[2];
            int p = at[3];
            Kit.due("ask", x.ask(t, d, n, p, 0, false), -1);
            Kit.due("ask", x.ask(t, d, n, p, 0, true), -1);
            Kit.due("note", x.note(t, d, n, p, 1, 2), -1);
            Kit.due("honest", x.honest(t, d, n, p, 0), -1);
            Kit.due("trial", x.trial(t, d, n, p, 1, 0), -1);
            Kit.due("ways", x.ways(t, d, n, p, 0), -1);
            Kit.due("leans", x.leans(t, d, n, p, 0, false), -1);
            Kit.due("leans", x.leans(t, d, n, p, 0, true), -1);
            Kit.due("roots", x.roots(t, d, n, p, 0), -2);
            Kit.due("roots", x.roots(t, d, n, p, 1), -2);
            Kit.due("roots", x.roots(t, d, n, p, 2), -2);
            Kit.due("teach", x.teach(t, d, n, p, 1), -1);
        }
        for (int odd : new int[] {-1, 6, 9, 32, Integer.MIN_VALUE, Integer.MAX_VALUE}) {
            Kit.due("ask", x.ask(0, 0, 1, 0, odd, false), -1);
            Kit.due("ask", x.ask(0, 0, 1, 0, odd, true), -1);
        }
    }
}
