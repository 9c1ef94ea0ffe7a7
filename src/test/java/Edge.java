/** The edges that many promises share: towns, days, acts, people, facts and sets that there are not. */
final class Edge {
    static final int MIN = Integer.MIN_VALUE;
    static final int MAX = Integer.MAX_VALUE;

    /** A call of which but one number is looked at. */
    interface Of {
        int at(int number);
    }

    /** A call of a state and of one. */
    interface OfState {
        int at(ForgetBread x, int town, int day, int n, int person);
    }

    private Edge() {
    }

    /** All of some numbers, and the least and the greatest int, answer the same. */
    static void none(String call, Of asked, int none, int... numbers) {
        for (int number : numbers) {
            Kit.due(call + ", " + number, asked.at(number), none);
        }
        for (int number : new int[] {MIN, MIN + 1, MAX, MAX - 1}) {
            Kit.due(call + ", " + number, asked.at(number), none);
        }
    }

    /** The numbers that name nothing where there are so many, from 0 on; 32 and its like are 0 where shifts wrap. */
    static void outside(String call, Of asked, int none, int many) {
        none(call, asked, none, -1, -2, -31, -32, -64, many, many + 1, 31 + many, 32, 33, 32 + many, 63, 64, 256, 65536);
        for (int shift = 8; shift < 31; shift++) {
            Kit.due(call + ", 1 << " + shift, asked.at(1 << shift), none);
        }
    }

    /** The sets that are not of so many facts (or skills), from 0 on, alone. */
    static void notSets(String call, Of asked, int none, int many) {
        none(call, asked, none, -1, -2);
        for (int bit = many; bit < 32; bit++) {
            Kit.due(call + ", the set of " + bit, asked.at(1 << bit), none);
            Kit.due(call + ", a set with " + bit, asked.at(1 << bit | (1 << many) - 1), none);
        }
    }

    /** A town of so many people who are all alike: each of their lines stands there with the number of one for '#'. */
    static String alike(int people, String town, String each) {
        StringBuilder text = new StringBuilder(town);
        for (int p = 0; p < people; p++) {
            text.append("one 5;").append(each.replace("#", String.valueOf(p)));
        }
        return text.toString();
    }

    /** An object with the town of 2 people and that of 5, and three days: of 2 hours, with a stop at 1, without acts. */
    static ForgetBread towns(String town, String each) {
        ForgetBread x = new ForgetBread();
        Kit.due("the town of 2", Kit.text(x, 0, -1, alike(2, town, each)), 0);
        Kit.due("the town of 5", Kit.text(x, 0, -1, alike(5, town, each)), 1);
        Kit.due("the day of 2 hours", Kit.text(x, 1, -1, "hour;hour;"), 0);
        Kit.due("the day with a stop", Kit.text(x, 1, -1, "hour;learn 0 9;hour;"), 1);
        Kit.due("the day without acts", Kit.text(x, 1, -1, ""), 2);
        return x;
    }

    /**
     * A call that answers the same in each state and of each one of two towns (of at most 9 facts): the last town, day,
     * act and, if it is of one, the last one that there is, and the first that there is not, on both sides.
     */
    static void states(OfState asked, boolean ofOne, int due, int none, String town, String each) {
        ForgetBread empty = new ForgetBread();
        Kit.due("without towns", asked.at(empty, 0, -1, 0, 0), none);
        Kit.due("without days", asked.at(empty, 0, 0, 0, 0), none);
        ForgetBread dayless = new ForgetBread();
        Kit.due("a town", Kit.text(dayless, 0, -1, alike(2, town, each)), 0);
        Kit.due("no day is told of, by none", asked.at(dayless, 0, -1, 0, 0), due);
        Kit.due("no day is told of", asked.at(dayless, 0, 0, 0, 0), none);
        Kit.due("the first town that there is not", asked.at(dayless, 1, -1, 0, 0), none);
        ForgetBread townless = new ForgetBread();
        Kit.due("a day", Kit.text(townless, 1, -1, "hour;"), 0);
        Kit.due("no town is told of", asked.at(townless, 0, 0, 0, 0), none);
        ForgetBread x = towns(town, each);
        int[][] there = {{0, -1, 0}, {1, -1, 0}, {0, 0, 0}, {0, 0, 1}, {0, 0, 2}, {1, 0, 2}, {0, 1, 0}, {0, 1, 1},
            {0, 2, 0}, {1, 2, 0}};
        for (int[] at : there) {
            String shown = at[0] + ", " + at[1] + ", " + at[2];
            Kit.due(shown + ", the first one", asked.at(x, at[0], at[1], at[2], 0), due);
            Kit.due(shown + ", the last one", asked.at(x, at[0], at[1], at[2], at[0] == 0 ? 1 : 4), due);
        }
        none("town", t -> asked.at(x, t, -1, 0, 0), none, -1, -2, 2, 3, 32, 33, 65536);
        none("day", d -> asked.at(x, 0, d, 0, 0), none, -2, -3, -32, 3, 4, 32, 33, 65536);
        none("acts", n -> asked.at(x, 0, 0, n, 0), none, -1, -2, 3, 4, 30, 31, 32, 256, 65536);
        none("acts behind the stop", n -> asked.at(x, 0, 1, n, 0), none, -1, 2, 3, 4);
        none("acts of none", n -> asked.at(x, 0, 2, n, 0), none, -1, 1, 2);
        none("acts without a day", n -> asked.at(x, 0, -1, n, 0), none, -1, 1, 2);
        if (ofOne) {
            outside("one of 2", p -> asked.at(x, 0, 0, 1, p), none, 2);
            outside("one of 5", p -> asked.at(x, 1, 0, 1, p), none, 5);
            peopleless(asked, none, town);
        }
    }

    private static void peopleless(OfState asked, int none, String town) {
        ForgetBread x = new ForgetBread();
        Kit.due("a town without people", Kit.text(x, 0, -1, town), 0);
        for (int p = -1; p < 2; p++) {
            Kit.due("without people, " + p, asked.at(x, 0, -1, 0, p), none);
        }
    }
}
