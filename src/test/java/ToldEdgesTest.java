/** Promises 6 to 12: what is told of a town and of a day, and what there is none of. */
public final class ToldEdgesTest {
    private static final String FULL = "facts 10;price 99;rule 9 8 7 6;one 99;one 0;knows 0 9 0;out 0 9 1;sign 9 8;"
            + "meet 1 0 9 7;skill 99 9 8 7;hurt 98 0;";
    /** Of each the most that there may be: 16 rules, 5 people, 12 signs, 12 meetings, 6 skills, 6 hurts. */
    private static final String MOST = "rule 1 0;".repeat(15) + "rule 3 2;" + "one 1;".repeat(4) + "one 2;"
            + "sign 1 1;".repeat(11) + "sign 2 2;" + "meet 0 1 1 1;".repeat(11) + "meet 4 3 2 1;"
            + "skill 1 1;".repeat(5) + "skill 2 2;" + "hurt 1 1;".repeat(5) + "hurt 3 3;";

    /** A call of a town, of a place in it and of what is asked of that. */
    private interface Row {
        int at(ForgetBread x, int town, int row, int what);
    }

    private ToldEdgesTest() {
    }

    public static void main(String[] args) {
        towns();
        lonely();
        townNone();
        rules();
        people();
        signs();
        meetings();
        skills();
        hurts();
        actsHowMany();
        actsTold();
        actNone();
        Kit.close();
    }

    private static void towns() {
        Kit.sentence("Promise 6", "Of a TOWN, what 0: FACTS, 1: RULES, 2: PEOPLE, 3: SIGNS, 4: MEETINGS, 5: SKILLS, "
                + "6: HURTS, 7: PRICE, 8: LONELY.");
        due("", 6, 0, 0, 0, 0, 0, 0, 4, 63);
        due("facts 1;price 0;", 1, 0, 0, 0, 0, 0, 0, 0, 1);
        due(FULL, 10, 1, 2, 1, 1, 1, 1, 99, 63);
        due(MOST, 6, 16, 5, 12, 12, 6, 6, 4, 48);
    }

    private static void due(String text, int... due) {
        ForgetBread x = Kit.of(text);
        for (int what = 0; what < due.length; what++) {
            Kit.due("town " + what + " of " + text, x.town(0, what), due[what]);
        }
    }

    private static void lonely() {
        Kit.sentence("Term 4", "LONELY: FACTS in no RULE.");
        String[] towns = {"", "facts 10;", "facts 1;", "rule 5 0;", "rule 0 1 2 3;", "rule 0 1;rule 1 2;rule 2 3;",
            "rule 0 1 2 3;rule 4 5;", "facts 10;rule 9 0;", "rule 1 0;sign 1 5;skill 1 4;one 1;knows 0 3;"};
        int[] due = {63, 1023, 1, 30, 48, 48, 0, 510, 60};
        for (int i = 0; i < towns.length; i++) {
            Kit.due("lonely of " + towns[i], Kit.of(towns[i]).town(0, 8), due[i]);
        }
    }

    private static void townNone() {
        Kit.sentence("Promise 6", "NONE: there is none such, or for another what.");
        ForgetBread empty = new ForgetBread();
        for (int what = -1; what < 10; what++) {
            Kit.due("no towns", empty.town(0, what), -1);
        }
        ForgetBread x = Kit.of(FULL);
        for (int what = 0; what < 9; what++) {
            int of = what;
            Edge.none("town " + of, t -> x.town(t, of), -1, -1, -2, 1, 2, 32, 256);
        }
        Edge.none("what", what -> x.town(0, what), -1, -1, -2, 9, 10, 32, 33, 40, 256, 65536);
        Kit.due("a second town", Kit.text(x, 0, -1, ""), 1);
        Kit.due("the last town", x.town(1, 8), 63);
        Edge.none("of two", t -> x.town(t, 0), -1, -1, -2, 2, 3, 32, 33, 65536);
    }

    private static void rows(Row asked, int rows, int[] last) {
        ForgetBread empty = new ForgetBread();
        Kit.due("no towns", asked.at(empty, 0, 0, 0), -1);
        ForgetBread x = new ForgetBread();
        Kit.due("a town without any", Kit.text(x, 0, -1, ""), 0);
        Kit.due("a full one", Kit.text(x, 0, -1, MOST), 1);
        int whats = last.length;
        for (int what = -1; what <= whats; what++) {
            Kit.due("none is there, " + what, asked.at(x, 0, 0, what), -1);
            boolean is = what >= 0 && what < whats;
            Kit.due("the last one, " + what, asked.at(x, 1, rows - 1, what), is ? last[what] : -1);
            Kit.due("behind the last one, " + what, asked.at(x, 1, rows, what), -1);
            Kit.due("ahead of the first one, " + what, asked.at(x, 1, -1, what), -1);
        }
        for (int row = 0; row < rows; row++) {
            Kit.due("there is " + row, asked.at(x, 1, row, 0) >= 0, true);
        }
        Edge.none("town", t -> asked.at(x, t, 0, 0), -1, -1, -2, 2, 3, 32, 33, 65536);
        Edge.none("row", row -> asked.at(x, 1, row, 0), -1, -1, -2, rows, rows + 1, rows + 32, 32, 64, 256, 65536, 1 << 30);
        Edge.none("what", what -> asked.at(x, 1, 0, what), -1, -1, -2, whats, whats + 1, whats + 2, 10, 32, 256, 65536);
    }

    private static void rules() {
        Kit.sentence("Promise 7", "Of a RULE, what 0: what follows, 1: from which (bits).");
        ForgetBread x = Kit.of("facts 10;rule 0 9;rule 9 0 1 2;rule 5 4 8;");
        int[][] due = {{0, 512}, {9, 7}, {5, 272}};
        for (int rule = 0; rule < due.length; rule++) {
            Kit.due("what follows", x.rule(0, rule, 0), due[rule][0]);
            Kit.due("from which", x.rule(0, rule, 1), due[rule][1]);
        }
        Kit.sentence("Promise 7", "NONE: there is none such (of either), or for another what.");
        rows(ForgetBread::rule, 16, new int[] {3, 4});
    }

    private static void people() {
        Kit.sentence("Promise 8", "Of one, what 0: TASTE, 1: FACTS he KNOWS as told (bits), 2: HOURS when he is OUT "
                + "(bits).");
        ForgetBread x = Kit.of("facts 10;rule 5 0;one 0;one 99;knows 1 0 9;out 1 1 9;");
        int[][] due = {{0, 0, 0}, {99, 513, 514}};
        for (int p = 0; p < due.length; p++) {
            for (int what = 0; what < 3; what++) {
                Kit.due("person " + p + " " + what, x.person(0, p, what), due[p][what]);
            }
        }
        Kit.due("as told, though 5 follows", x.state(0, -1, 0, 11), 545);
        Kit.sentence("Promise 8", "NONE: there is none such (of either), or for another what.");
        rows(ForgetBread::person, 5, new int[] {2, 0, 0});
    }

    private static void signs() {
        Kit.sentence("Promise 9", "Of a SIGN, what 0: HOUR, 1: FACT.");
        ForgetBread x = Kit.of("facts 10;sign 1 9;sign 9 0;");
        Kit.due("hour", x.sign(0, 0, 0), 1);
        Kit.due("fact", x.sign(0, 0, 1), 9);
        Kit.due("hour", x.sign(0, 1, 0), 9);
        Kit.due("fact", x.sign(0, 1, 1), 0);
        Kit.sentence("Promise 9", "NONE: there is none such (of either), or for another what.");
        rows(ForgetBread::sign, 12, new int[] {2, 2});
    }

    private static void meetings() {
        Kit.sentence("Promise 10", "Of a MEETING, what 0: who, 1: whom, 2: HOUR, 3: FACT.");
        ForgetBread x = Kit.of("facts 10;" + "one 0;".repeat(5) + "meet 0 4 1 9;meet 4 0 9 0;");
        int[][] due = {{0, 4, 1, 9}, {4, 0, 9, 0}};
        for (int meet = 0; meet < due.length; meet++) {
            for (int what = 0; what < 4; what++) {
                Kit.due("meet " + meet + " " + what, x.meet(0, meet, what), due[meet][what]);
            }
        }
        Kit.sentence("Promise 10", "NONE: there is none such (of either), or for another what.");
        rows(ForgetBread::meet, 12, new int[] {4, 3, 2, 1});
    }

    private static void skills() {
        Kit.sentence("Promise 11", "Of a SKILL, or (hurt) a HURT, what 0: how much, 1: FACTS (bits).");
        ForgetBread x = Kit.of("facts 10;skill 0 9;skill 99 0 1 2;hurt 99 9 8 7;");
        Kit.due("how much", x.skill(0, 0, false, 0), 0);
        Kit.due("facts", x.skill(0, 0, false, 1), 512);
        Kit.due("how much", x.skill(0, 1, false, 0), 99);
        Kit.due("facts", x.skill(0, 1, false, 1), 7);
        Kit.due("how much", x.skill(0, 0, true, 0), 99);
        Kit.due("facts", x.skill(0, 0, true, 1), 896);
        Kit.due("one hurt alone", x.skill(0, 1, true, 0), -1);
        Kit.sentence("Promise 11", "NONE: there is none such (of either), or for another what.");
        rows((of, t, row, what) -> of.skill(t, row, false, what), 6, new int[] {2, 4});
    }

    private static void hurts() {
        Kit.sentence("Promise 11", "NONE: there is none such (of either)");
        rows((of, t, row, what) -> of.skill(t, row, true, what), 6, new int[] {3, 8});
        ForgetBread x = Kit.of("skill 1 1;skill 2 2;");
        Kit.due("skills are no hurts", x.skill(0, 0, true, 0), -1);
        ForgetBread y = Kit.of("hurt 1 1;hurt 2 2;");
        Kit.due("hurts are no skills", y.skill(0, 0, false, 0), -1);
    }

    private static void actsHowMany() {
        Kit.sentence("Promise 12", "Of a DAY how many ACTS (act NONE, what 0)");
        for (int many = 0; many <= 30; many++) {
            Kit.due("acts", Kit.of("", "hour;".repeat(many)).act(0, -1, 0), many);
        }
        ForgetBread x = Kit.of("", "hour;", "hour;hour;", "");
        for (int day = 0; day < 3; day++) {
            Kit.due("acts of " + day, x.act(day, -1, 0), (day + 1) % 3);
        }
    }

    private static void actsTold() {
        Kit.sentence("Promise 12", "of an ACT, what 0: 0 whole, 1 least, 2 late, 3 half, 4 learn, 5 ask, 6 hour, 1, 2, 3: "
                + "its numbers as told (NONE without).");
        ForgetBread x = Kit.of("", "whole 0 9;least 4 0;late 4 9;half 0 0;learn 1 02;ask 4 0 9;hour;ask 0 4 0;");
        int[][] due = {{0, 0, 9, -1}, {1, 4, 0, -1}, {2, 4, 9, -1}, {3, 0, 0, -1}, {4, 1, 2, -1}, {5, 4, 0, 9},
            {6, -1, -1, -1}, {5, 0, 4, 0}};
        for (int act = 0; act < due.length; act++) {
            for (int what = 0; what < 4; what++) {
                Kit.due("act " + act + " " + what, x.act(0, act, what), due[act][what]);
            }
        }
        // an ask ahead of it leaves nothing in another act's third number
        Kit.due("in its place", Kit.text(x, 1, 0, "hour;hour;hour;hour;hour;learn 1 1;whole 3 3;hour;"), 0);
        Kit.due("no third number", x.act(0, 5, 3), -1);
        Kit.due("no first number", x.act(0, 0, 1), -1);
        Kit.due("no second number", x.act(0, 7, 2), -1);
    }

    private static void actNone() {
        Kit.sentence("Promise 12", "-2: there is none such (of any), or for another what.");
        ForgetBread empty = new ForgetBread();
        Kit.due("no days", empty.act(0, -1, 0), -2);
        Kit.due("no days", empty.act(0, 0, 0), -2);
        Kit.due("no days", empty.act(-1, -1, 0), -2);
        ForgetBread x = Kit.of("", "hour;".repeat(29) + "learn 1 1;", "");
        Kit.due("the last act", x.act(0, 29, 0), 4);
        Edge.none("day", day -> x.act(day, -1, 0), -2, -1, -2, 2, 3, 32, 33, 65536);
        Edge.none("day, of an act", day -> x.act(day, 0, 0), -2, -1, -2, 1, 2, 3, 32, 33, 65536);
        Edge.none("act", act -> x.act(0, act, 0), -2, -2, -3, 30, 31, 32, 61, 64, 256, 65536, 1 << 29);
        Edge.none("what of an act", what -> x.act(0, 29, what), -2, -1, -2, 4, 5, 6, 10, 32, 256, 65536);
        Edge.none("what of none", what -> x.act(0, -1, what), -2, -1, -2, 1, 2, 3, 4, 32, 256);
        Edge.none("acts of an empty day", act -> x.act(1, act, 0), -2, -2, 0, 1, 29, 30);
        Kit.due("an empty day has none", x.act(1, -1, 0), 0);
    }
}
