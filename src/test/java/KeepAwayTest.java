/** Promises 26, 44 and 45: who must eat, stay in or be shut out so that one has it not by evening. */
public final class KeepAwayTest {
    private KeepAwayTest() {
    }

    public static void main(String[] args) {
        pacts();
        stays();
        shuts();
        wrongOnes();
        Kit.close();
    }

    private static void pact(ForgetBread x, int n, int p, int fact, int due) {
        Kit.due("pact " + n + " " + p + " " + fact, x.pact(0, 0, n, p, fact), due);
    }

    private static void pacts() {
        // nought, one and two have 0; one and two tell nought, three tells one
        ForgetBread x = Kit.of("facts 3;one 0;one 0;one 0;one 0;one 0;knows 0 0 1;knows 1 0;knows 2 0 2;knows 3 0;"
                + "meet 1 0 3 0;meet 2 0 4 0;meet 3 4 5 0;meet 4 3 6 2;", "hour;hour;hour;hour;");
        pact(x, 0, 0, 0, Kit.set(1, 2));
        pact(x, 3, 0, 0, Kit.set(2));
        pact(x, 4, 0, 0, 0);
        pact(x, 0, 1, 0, 0);
        pact(x, 0, 0, 1, 0);
        pact(x, 0, 3, 0, 0);
        pact(x, 0, 0, 2, -1);
        pact(x, 0, 4, 0, -1);
        // one is told by two ahead of telling nought: of one and two the two of them, or two alone
        ForgetBread chain = Kit.of("facts 3;one 0;one 0;one 0;knows 0 0;knows 1 0;knows 2 0;meet 1 0 3 0;meet 2 1 2 0;",
                "hour;hour;");
        pact(chain, 0, 0, 0, Kit.set(1, 2));
        pact(chain, 2, 0, 0, Kit.set(1));
        // who sees it again has it whoever eats
        ForgetBread seen = Kit.of("facts 2;one 0;one 0;knows 0 0;knows 1 0;out 0 5;sign 5 0;",
                "half 0 0;learn 0 0;hour;hour;hour;hour;hour;" + "hour;".repeat(4));
        pact(seen, 0, 0, 0, -1);
        pact(seen, 7, 0, 0, -1);
        pact(seen, 11, 0, 0, 0);
        // of several the least number: one or two would do
        ForgetBread either = Kit.of("facts 4;rule 3 1 2;one 0;one 0;one 0;knows 0 0 1 2;knows 1 0 3;knows 2 0 3;"
                + "meet 1 2 1 3;", "");
        pact(either, 0, 1, 3, 0);
        pact(either, 0, 2, 3, Kit.set(1));
        ForgetBread both = Kit.of("facts 4;rule 3 0;rule 3 1;one 0;one 0;one 0;knows 0 3;knows 1 0;knows 2 1;"
                + "meet 1 2 1 0;meet 2 1 1 1;meet 1 0 2 0;", "");
        pact(both, 0, 0, 3, Kit.set(1));
        // they eat by least: 1 stays, and with 0 it gives 2 again
        String least = "facts 3;rule 2 0 1;one 0;one 0;knows 0 0 1;knows 1 0 1;";
        pact(Kit.of(least + "out 0 5;sign 5 0;", ""), 0, 0, 2, -1);
        pact(Kit.of(least + "out 0 5;sign 5 1;", ""), 0, 0, 2, 0);
        pact(Kit.of(least + "out 1 3;sign 3 0;meet 1 0 5 2;", ""), 0, 0, 2, -1);
        pact(Kit.of(least + "out 1 3;sign 3 1;meet 1 0 5 2;", ""), 0, 0, 2, Kit.set(1));
        // the fewest, though the two others would be the least number: three alone tells of 1
        ForgetBread fewest = Kit.of("facts 5;rule 3 0 1;rule 3 0 2;rule 3 1 4;one 0;one 0;one 0;one 0;knows 0 3;"
                + "knows 1 0 2;knows 2 0 2;knows 3 1 4;meet 1 0 1 0;meet 2 0 2 0;meet 3 0 3 1;", "");
        pact(fewest, 0, 0, 3, Kit.set(3));
    }

    private static void stay(ForgetBread x, int n, int p, int fact, int due) {
        Kit.due("stay " + n + " " + p + " " + fact, x.stay(0, 0, n, p, fact), due);
    }

    private static void stays() {
        // 3 comes of 0 and 1; nought sees 0 at 2 and 7, 1 at 4, and 5 at 9; one is out, too
        ForgetBread x = Kit.of("facts 6;rule 3 0 1;one 0;one 0;out 0 1 2 4 7 9;out 1 2 4;sign 2 0;sign 7 0;sign 4 1;"
                + "sign 9 5;sign 3 4;meet 1 0 9 4;", "hour;hour;hour;hour;hour;");
        stay(x, 0, 0, 0, Kit.set(2, 7));
        stay(x, 0, 0, 1, Kit.set(4));
        stay(x, 0, 0, 3, Kit.set(4));
        stay(x, 0, 0, 5, Kit.set(9));
        stay(x, 0, 0, 4, 0);
        stay(x, 0, 0, 2, 0);
        stay(x, 0, 1, 3, Kit.set(2));
        stay(x, 2, 0, 0, -1);
        stay(x, 2, 0, 3, Kit.set(4));
        stay(x, 2, 1, 3, Kit.set(4));
        stay(x, 5, 0, 3, -1);
        stay(x, 5, 0, 5, Kit.set(9));
        // he has it, or is told it
        ForgetBread told = Kit.of("facts 2;one 0;one 0;knows 1 0;out 0 5;sign 5 0;meet 1 0 2 0;", "hour;hour;half 0 0;",
                "hour;");
        stay(told, 0, 0, 0, -1);
        stay(told, 0, 1, 0, -1);
        stay(told, 2, 0, 0, -1);
        stay(told, 3, 0, 0, -1);
        // of several the least number
        ForgetBread either = Kit.of("facts 3;rule 2 0 1;one 0;out 0 3 6;sign 3 0;sign 6 1;", "");
        stay(either, 0, 0, 2, Kit.set(3));
        // the fewest goes ahead of the least number
        ForgetBread fewest = Kit.of("facts 3;rule 2 0 1;one 0;out 0 2 3 7;sign 2 0;sign 3 0;sign 7 1;", "hour;hour;");
        stay(fewest, 0, 0, 2, Kit.set(7));
        stay(fewest, 1, 0, 2, Kit.set(7));
        stay(fewest, 2, 0, 2, Kit.set(7));
        // only his own hours, though another one tells him what he has seen
        ForgetBread other = Kit.of("facts 2;one 0;one 0;out 0 3;out 1 3;sign 3 0;meet 0 1 5 0;meet 1 0 6 0;", "");
        stay(other, 0, 0, 0, -1);
        ForgetBread all = Kit.of("facts 1;one 0;out 0 1 2 3 4 5 6 7 8 9;sign 1 0;sign 2 0;sign 3 0;sign 4 0;sign 5 0;"
                + "sign 6 0;sign 7 0;sign 8 0;sign 9 0;", "");
        stay(all, 0, 0, 0, 1022);
    }

    private static void shut(ForgetBread x, int n, int p, int fact, int due) {
        Kit.due("shut " + n + " " + p + " " + fact, x.shut(0, 0, n, p, fact), due);
    }

    private static void shuts() {
        ForgetBread x = Kit.of("facts 4;rule 3 0 1;one 0;one 0;one 0;knows 1 0;knows 2 1;meet 1 0 2 0;meet 2 0 3 1;"
                + "meet 1 0 5 0;meet 2 1 4 1;meet 1 0 6 3;", "hour;hour;hour;hour;");
        shut(x, 0, 0, 0, Kit.set(0, 2));
        shut(x, 0, 0, 1, Kit.set(1));
        shut(x, 0, 0, 2, 0);
        shut(x, 0, 1, 3, Kit.set(3));
        // of 3: the meetings 1 and 3, or 1 and 4, or 0, 2 and one of 3 and 4
        shut(x, 0, 0, 3, Kit.set(1, 3));
        shut(x, 2, 0, 0, -1);
        shut(x, 2, 0, 3, Kit.set(1, 3));
        shut(x, 3, 0, 3, -1);
        shut(x, 4, 1, 3, -1);
        shut(x, 1, 1, 0, -1);
        // a chain: either of its meetings would do
        ForgetBread chain = Kit.of("facts 1;one 0;one 0;one 0;knows 0 0;meet 1 2 5 0;meet 0 1 3 0;meet 0 1 7 0;", "hour;");
        shut(chain, 0, 2, 0, 1);
        shut(chain, 0, 1, 0, Kit.set(1, 2));
        // the fewest goes ahead of the least number
        ForgetBread fewest = Kit.of("facts 1;one 0;one 0;one 0;knows 1 0;meet 1 2 1 0;meet 1 2 2 0;meet 2 0 5 0;",
                "hour;");
        shut(fewest, 0, 0, 0, Kit.set(2));
        shut(fewest, 1, 0, 0, Kit.set(2));
        // who sees it is not kept from it
        ForgetBread seen = Kit.of("facts 1;one 0;one 0;knows 1 0;out 0 5;sign 5 0;meet 1 0 3 0;", "half 1 0;");
        shut(seen, 0, 0, 0, -1);
        shut(seen, 1, 1, 0, -1);
        StringBuilder twelve = new StringBuilder("facts 1;one 0;one 0;knows 1 0;");
        for (int meet = 0; meet < 12; meet++) {
            twelve.append("meet 1 0 ").append(1 + meet % 9).append(" 0;");
        }
        ForgetBread many = Kit.of(twelve.toString(), "hour;");
        shut(many, 0, 0, 0, 4095);
        shut(many, 1, 0, 0, -1);
    }

    private static void wrongOnes() {
        ForgetBread x = Kit.of("one 0;one 0;knows 0 0;knows 1 0;", "hour;ask 0 1 1;");
        int[][] none = {{1, -1, 0, 0}, {-1, -1, 0, 0}, {0, 1, 0, 0}, {0, -2, 0, 0}, {0, 0, 2, 0}, {0, 0, -1, 0},
            {0, -1, 1, 0}, {0, 0, 0, 2}, {0, 0, 0, -1}, {0, 0, 0, 5}, {0, 0, 0, Integer.MAX_VALUE},
            {Integer.MIN_VALUE, 0, 0, 0}, {0, Integer.MAX_VALUE, 0, 0}, {0, 0, Integer.MIN_VALUE, 0}};
        for (int[] at : none) {
            Kit.due("pact", x.pact(at[0], at[1], at[2], at[3], 0), -1);
            Kit.due("stay", x.stay(at[0], at[1], at[2], at[3], 1), -1);
            Kit.due("shut", x.shut(at[0], at[1], at[2], at[3], 1), -1);
        }
        Kit.due("pact", x.pact(0, 0, 1, 0, 0), 0);
        Kit.due("stay", x.stay(0, 0, 1, 0, 1), 0);
        Kit.due("shut", x.shut(0, 0, 1, 0, 1), 0);
        for (int odd : new int[] {-1, 6, 9, 31, 32, Integer.MIN_VALUE, Integer.MAX_VALUE}) {
            Kit.due("pact", x.pact(0, 0, 1, 0, odd), -1);
            Kit.due("stay", x.stay(0, 0, 1, 0, odd), -1);
            Kit.due("shut", x.shut(0, 0, 1, 0, odd), -1);
        }
    }
}
