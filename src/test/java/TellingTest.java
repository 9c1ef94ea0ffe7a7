/** Promises 1 to 12 and 47 to 49: what is told, and how it is read again. */
public final class TellingTest {
    private static final int[] ODD = {-1, -2, Integer.MIN_VALUE, Integer.MAX_VALUE, 99, 1 << 20};

    private TellingTest() {
    }

    public static void main(String[] args) {
        newObject();
        tape();
        bytesOfTape();
        textPlaces();
        faultOne();
        faultTwo();
        faultThree();
        faultFour();
        faultsOfDays();
        oneTextAfterAnother();
        townsTold();
        actsTold();
        images();
        Kit.close();
    }

    private static void newObject() {
        ForgetBread x = new ForgetBread();
        Kit.due("towns", x.count(0), 0);
        Kit.due("days", x.count(1), 0);
        for (int what : new int[] {2, -1, -2, Integer.MIN_VALUE, Integer.MAX_VALUE}) {
            Kit.due("count " + what, x.count(what), -2);
        }
        Kit.due("fault", x.fault(0), 0);
        Kit.due("place", x.fault(1), -1);
        for (int k = -1; k < 4; k++) {
            Kit.due("back " + k, x.back(k), false);
        }
        Kit.due("empty tape", x.end(1), -1);
        Kit.due("empty tape", x.end(0), 0);
        Kit.due("no town", x.town(0, 0), -1);
        Kit.due("no day", x.act(0, -1, 0), -2);
        Kit.due("no state", x.state(0, -1, 0, 0), -2);
    }

    private static void tape() {
        ForgetBread x = new ForgetBread();
        for (int many = 20; many <= 600; many += 20) {
            Kit.due("feed", x.feed(1, 2, 3, 4, 5), many);
        }
        Kit.due("feed a full tape", x.feed(1, 2, 3, 4, 5), -1);
        Kit.due("it is as it was", x.end(600), 600);
        Kit.due("end behind it", x.end(601), -1);
        Kit.due("end", x.end(581), 581);
        Kit.due("feed one too many", x.feed(1, 2, 3, 4, 5), -1);
        Kit.due("nothing came", x.end(582), -1);
        Kit.due("end", x.end(580), 580);
        Kit.due("feed the last", x.feed(1, 2, 3, 4, 5), 600);
        for (int n : new int[] {-1, Integer.MIN_VALUE, Integer.MAX_VALUE, 601}) {
            Kit.due("end " + n, x.end(n), -1);
        }
        Kit.due("end 0", x.end(0), 0);
        Kit.due("end 1", x.end(1), -1);
    }

    private static void bytesOfTape() {
        ForgetBread x = new ForgetBread();
        // "facts 7;price 12;one" and then " 34;" behind a tape that was shortened by end
        Kit.due("feed", x.feed(0x66616374, 0x7320373b, 0x70726963, 0x65203132, 0x3b6f6e65), 20);
        Kit.due("end", x.end(17), 17);
        Kit.due("feed", x.feed(0x6f6e6520, 0x33343b20, 0x0a202020, 0x20202020, 0x2020ffff), 37);
        Kit.due("end", x.end(35), 35);
        Kit.due("text", x.text(0, -1), 0);
        Kit.due("facts", x.town(0, 0), 7);
        Kit.due("price", x.town(0, 7), 12);
        Kit.due("taste", x.person(0, 0, 0), 34);
        Kit.due("the tape is empty", x.end(1), -1);
        Kit.due("a byte above 127", x.feed(0x66616374, 0x73203780, 0x3b000000, 0, 0), 20);
        Kit.due("text", x.text(0, -1), -1);
        Kit.due("fault", x.fault(0), 1);
        Kit.due("place", x.fault(1), 7);
        Kit.due("the tape is empty", x.end(1), -1);
        Kit.due("what else", x.fault(2), -1);
        Kit.due("what else", x.fault(-1), -1);
        Kit.due("what else", x.fault(Integer.MIN_VALUE), -1);
    }

    private static void textPlaces() {
        ForgetBread x = new ForgetBread();
        Kit.due("none such", Kit.text(x, 0, 0, "facts 3;"), -2);
        Kit.due("the tape is empty", x.end(1), -1);
        Kit.due("an empty text", Kit.text(x, 0, -1, ""), 0);
        Kit.due("town", Kit.text(x, 0, -1, "facts 2;"), 1);
        Kit.due("a fault", Kit.text(x, 0, 0, "facts"), -1);
        Kit.due("fault", x.fault(0), 1);
        Kit.due("place", x.fault(1), 5);
        Kit.due("one too many", Kit.text(x, 0, -1, "facts"), -2);
        Kit.due("no text is read", x.fault(0), 0);
        Kit.due("no place", x.fault(1), -1);
        Kit.due("the tape is empty", x.end(1), -1);
        Kit.due("no such town", Kit.text(x, 0, 2, "facts 3;"), -2);
        Kit.due("in the place of one", Kit.text(x, 0, 1, "facts 9;"), 1);
        Kit.due("the other one stays", x.town(0, 0), 6);
        Kit.due("it is there", x.town(1, 0), 9);
        for (int sort : new int[] {2, 3, -1, Integer.MIN_VALUE, Integer.MAX_VALUE}) {
            Kit.due("sort " + sort, Kit.text(x, sort, -1, ";"), -2);
            Kit.due("no fault", x.fault(0), 0);
            Kit.due("the tape is empty", x.end(1), -1);
        }
        for (int at : new int[] {-2, 3, 2, Integer.MIN_VALUE, Integer.MAX_VALUE}) {
            Kit.due("at " + at, Kit.text(x, 0, at, "facts 3;"), -2);
            Kit.due("at " + at, Kit.text(x, 1, at, "hour;"), -2);
            for (int sort = 0; sort < 2; sort++) {
                Kit.due("at " + at, Kit.text(x, sort, at, "#"), -2);
                Kit.due("no text is read", x.fault(0), 0);
                Kit.due("no place", x.fault(1), -1);
                Kit.due("the tape is empty", x.end(1), -1);
            }
        }
        for (int day = 0; day < 3; day++) {
            Kit.due("day", Kit.text(x, 1, -1, "hour;".repeat(day)), day);
        }
        Kit.due("a day too many", Kit.text(x, 1, -1, "hour;"), -2);
        Kit.due("in the place of a day", Kit.text(x, 1, 1, "hour;hour;hour;"), 1);
        Kit.due("a fault in its place", Kit.text(x, 1, 1, "hour;hour"), -1);
        Kit.due("it stays", x.act(1, -1, 0), 3);
        Kit.due("towns", x.count(0), 2);
        Kit.due("days", x.count(1), 3);
        Kit.due("a town stays at a fault", Kit.text(x, 0, 1, "facts 1;sign 1 1;"), -1);
        Kit.due("it stays", x.town(1, 0), 9);
    }

    private static void faultOne() {
        Kit.fault(0, "", 0, -1);
        Kit.fault(0, " \n ", 0, -1);
        Kit.fault(0, "facts6;price9;one1;knows0 1;", 0, -1);
        Kit.fault(0, "facts\n06\n;\n", 0, -1);
        Kit.fault(0, "facts", 1, 5);
        Kit.fault(0, "facts  ", 1, 7);
        Kit.fault(0, "facts 6", 1, 7);
        Kit.fault(0, "facts 6 \n", 1, 9);
        Kit.fault(0, "fact 6;", 1, 0);
        Kit.fault(0, "  factss 6;", 1, 2);
        Kit.fault(0, "factsz 6;", 1, 0);
        Kit.fault(0, "facts{6;", 1, 5);
        Kit.fault(0, "facts`6;", 1, 5);
        Kit.fault(0, "facts 6:", 1, 7);
        Kit.fault(0, "facts 6/;", 1, 7);
        Kit.fault(0, ";", 1, 0);
        Kit.fault(0, "6;", 1, 0);
        Kit.fault(0, "facts 6;;", 1, 8);
        Kit.fault(0, "facts 006;", 1, 6);
        Kit.fault(0, "price 100;", 1, 6);
        Kit.fault(0, "price 1000000000000;", 1, 6);
        Kit.fault(0, "price 1 x;", 1, 8);
        Kit.fault(0, "price1x;", 1, 6);
        Kit.fault(0, "price\t1;", 1, 5);
        Kit.fault(0, "price 1\r;", 1, 7);
        Kit.fault(0, "Price 1;", 1, 0);
        Kit.fault(0, "price 1\0;", 1, 7);
        Kit.fault(0, "price -1;", 1, 6);
        Kit.fault(0, "price 1 2;", 1, 8);
        Kit.fault(0, "rule 1;", 1, 6);
        Kit.fault(0, "rule;", 1, 4);
        Kit.fault(0, "one;", 1, 3);
        Kit.fault(0, "one 1 2;", 1, 6);
        Kit.fault(0, "one 1;knows 0;", 1, 13);
        Kit.fault(0, "one 1;out 0;", 1, 11);
        Kit.fault(0, "sign 1;", 1, 6);
        Kit.fault(0, "sign 1 2 3;", 1, 9);
        Kit.fault(0, "one 1;one 1;meet 0 1 1;", 1, 22);
        Kit.fault(0, "one 1;one 1;meet 0 1 1 1 1;", 1, 25);
        Kit.fault(0, "skill 1;", 1, 7);
        Kit.fault(0, "hurt 1;", 1, 6);
        Kit.fault(0, "hour;", 1, 0);
        Kit.fault(0, "whole 0 1;", 1, 0);
        // a fault 1 goes ahead of all others, wherever it is
        Kit.fault(0, "facts 0;rule 1 1;one", 1, 20);
        Kit.fault(0, "rule 1 2 3 4 5;x", 1, 15);
        Kit.fault(0, "facts 1;sign 1 5;#", 1, 17);
    }

    private static void faultTwo() {
        Kit.fault(0, "facts 0;", 2, 6);
        Kit.fault(0, "facts 00;", 2, 6);
        Kit.fault(0, "facts 1;", 0, -1);
        Kit.fault(0, "facts 10;", 0, -1);
        Kit.fault(0, "facts 11;", 2, 6);
        Kit.fault(0, "facts 99;", 2, 6);
        Kit.fault(0, "facts 10;rule 9 8;", 0, -1);
        Kit.fault(0, "facts 10;rule 10 8;", 2, 14);
        Kit.fault(0, "rule 0 10;", 2, 7);
        Kit.fault(0, "rule 1 01;", 2, 7);
        Kit.fault(0, "rule 1 2 0 1;", 2, 11);
        Kit.fault(0, "rule 1 2 3 2;", 2, 11);
        Kit.fault(0, "one 00;one 99;", 0, -1);
        Kit.fault(0, "knows 0 1;one 1;", 2, 6);
        Kit.fault(0, "one 1;knows 1 1;", 2, 12);
        Kit.fault(0, "one 1;knows 0 1 1 2 2 1;", 0, -1);
        Kit.fault(0, "one 1;knows 0 1 10;", 2, 16);
        Kit.fault(0, "out 0 1;", 2, 4);
        Kit.fault(0, "one 1;out 1 1;", 2, 10);
        Kit.fault(0, "one 1;out 0 0;", 2, 12);
        Kit.fault(0, "one 1;out 0 9 10;", 2, 14);
        Kit.fault(0, "one 1;out 0 1 9 1;", 0, -1);
        Kit.fault(0, "sign 0 1;", 2, 5);
        Kit.fault(0, "sign 10 1;", 2, 5);
        Kit.fault(0, "sign 9 5;sign 1 0;", 0, -1);
        Kit.fault(0, "sign 1 10;", 2, 7);
        Kit.fault(0, "one 1;one 1;meet 2 1 1 1;", 2, 17);
        Kit.fault(0, "one 1;one 1;meet 0 2 1 1;", 2, 19);
        Kit.fault(0, "one 1;one 1;meet 1 1 1 1;", 2, 19);
        Kit.fault(0, "one 1;one 1;meet 1 0 0 1;", 2, 21);
        Kit.fault(0, "one 1;one 1;meet 1 0 10 1;", 2, 21);
        Kit.fault(0, "one 1;one 1;meet 1 0 9 10;", 2, 23);
        Kit.fault(0, "skill 99 0 1 2;hurt 0 5;", 0, -1);
        Kit.fault(0, "skill 1 1 1;", 2, 10);
        Kit.fault(0, "skill 1 10;", 2, 8);
        Kit.fault(0, "hurt 1 2 3 2;", 2, 11);
        Kit.fault(0, "hurt 5 5;", 0, -1);
        // the first by place; of one place the least
        Kit.fault(0, "facts 11;rule 1 1;", 2, 6);
        Kit.fault(0, "rule 0 1 2 3 1;", 2, 13);
        Kit.fault(0, "rule 0 1 2 3 10;", 2, 13);
        Kit.fault(0, "skill 0 1 2 3 1;", 2, 14);
        Kit.fault(0, "rule 0 1 2 3 4 0;", 3, 13);
    }

    private static void faultThree() {
        Kit.fault(0, "rule 0 1 2 3;", 0, -1);
        Kit.fault(0, "rule 0 1 2 3 4;", 3, 13);
        Kit.fault(0, "skill 0 1 2 3 4;", 3, 14);
        Kit.fault(0, "hurt 0 1 2 3 4;", 3, 13);
        Kit.fault(0, "rule 1 0;".repeat(16), 0, -1);
        Kit.fault(0, "rule 1 0;".repeat(17), 3, 144);
        // a line with a wrong number tells its rule all the same: the line is one too many
        Kit.fault(0, "rule 1 0;".repeat(16) + "rule 1 1;", 3, 144);
        Kit.fault(0, "rule 1 1;" + "rule 1 0;".repeat(16), 2, 7);
        Kit.fault(0, "one 1;".repeat(5), 0, -1);
        Kit.fault(0, "one 1;".repeat(6), 3, 30);
        Kit.fault(0, "sign 1 1;".repeat(12), 0, -1);
        Kit.fault(0, "sign 1 1;".repeat(13), 3, 108);
        String two = "one 1;one 1;";
        Kit.fault(0, two + "meet 0 1 1 1;".repeat(12), 0, -1);
        Kit.fault(0, two + "meet 0 1 1 1;".repeat(12) + " meet 0 1 1 1;", 3, 169);
        Kit.fault(0, "skill 1 1;".repeat(6) + "hurt 1 1;".repeat(6), 0, -1);
        Kit.fault(0, "skill 1 1;".repeat(7), 3, 60);
        Kit.fault(0, "hurt 1 1;".repeat(7), 3, 54);
        Kit.fault(0, "one 1;" + "knows 0 1 2 3 4 5;out 0 1 2 3 4 5 6 7 8 9;".repeat(13), 0, -1);
    }

    private static void faultFour() {
        Kit.fault(0, "sign 1 6;", 4, 9);
        Kit.fault(0, "sign 1 6;facts 7;", 0, -1);
        Kit.fault(0, "facts 7;sign 1 6;facts 6; ", 4, 26);
        Kit.fault(0, "facts 2;rule 2 1;", 4, 17);
        Kit.fault(0, "facts 2;rule 1 2;", 4, 17);
        Kit.fault(0, "facts 2;one 1;knows 0 2;", 4, 24);
        Kit.fault(0, "facts 2;one 1;out 0 9;", 0, -1);
        Kit.fault(0, "facts 2;one 9;one 9;meet 0 1 9 2;", 4, 33);
        Kit.fault(0, "facts 2;skill 9 2;", 4, 18);
        Kit.fault(0, "facts 2;hurt 9 1 0 2;", 4, 21);
        Kit.fault(0, "facts 2;sign 9 5;sign 0 1;", 2, 22);
        Kit.fault(0, "facts 2;sign 9 1;price 9;", 0, -1);
    }

    private static void faultsOfDays() {
        Kit.fault(1, "", 0, -1);
        Kit.fault(1, "whole 0 0;least 4 9;late 3 1;half 2 2;learn 1 3;ask 0 4 9;hour;", 0, -1);
        Kit.fault(1, "whole 5 0;", 2, 6);
        Kit.fault(1, "least 0 10;", 2, 8);
        Kit.fault(1, "late 9 10;", 2, 5);
        Kit.fault(1, "half 0 1;half 5 1;", 2, 14);
        Kit.fault(1, "learn 5 1;", 2, 6);
        Kit.fault(1, "ask 5 0 0;", 2, 4);
        Kit.fault(1, "ask 0 5 0;", 2, 6);
        Kit.fault(1, "ask 2 2 0;", 2, 6);
        Kit.fault(1, "ask 2 3 10;", 2, 8);
        Kit.fault(1, "ask 2 3;", 1, 7);
        Kit.fault(1, "ask 2 3 4 5;", 1, 10);
        Kit.fault(1, "whole 0;", 1, 7);
        Kit.fault(1, "whole 0 1 2;", 1, 10);
        for (String word : new String[] {"whole", "least", "late", "half", "learn"}) {
            Kit.fault(1, word + " 0;", 1, word.length() + 2);
            Kit.fault(1, word + " 0 1 2;", 1, word.length() + 5);
            Kit.fault(1, word + " 5 1;", 2, word.length() + 1);
            Kit.fault(1, word + " 4 10;", 2, word.length() + 3);
        }
        Kit.fault(1, "hour 1;", 1, 5);
        Kit.fault(1, "hour", 1, 4);
        Kit.fault(1, "facts 6;", 1, 0);
        Kit.fault(1, "learn 0 100;", 1, 8);
        Kit.fault(1, "hour;".repeat(30), 0, -1);
        Kit.fault(1, "hour;".repeat(31), 3, 150);
        Kit.fault(1, "hour;".repeat(30) + "whole 9 9;", 3, 150);
        Kit.fault(1, "whole 9 9;" + "hour;".repeat(30), 2, 6);
    }

    /** What one text told, or one with a fault, is not in the next one. */
    private static void oneTextAfterAnother() {
        String full = "facts 10;price 77;rule 9 8 7 6;one 9;one 8;knows 0 9;out 0 9;sign 9 9;meet 0 1 9 9;"
                + "skill 9 9;hurt 9 9;";
        for (String first : new String[] {full, full + "x", full + "sign 0 0;", full + "facts 9;"}) {
            ForgetBread x = new ForgetBread();
            Kit.due("first", Kit.text(x, 0, -1, first), first.equals(full) ? 0 : -1);
            int at = x.count(0);
            Kit.due("second", Kit.text(x, 0, -1, "sign 1 5;"), at);
            Kit.due("fault", x.fault(0), 0);
            int[] due = {6, 0, 0, 1, 0, 0, 0, 4, 63};
            for (int what = 0; what < due.length; what++) {
                Kit.due("town " + what, x.town(at, what), due[what]);
            }
            Kit.due("reach", x.reach(at, 63), 63);
            Kit.due("knows 0", Kit.text(x, 0, at, "knows 0 1;"), -1);
            Kit.due("fault", x.fault(0), 2);
            Kit.due("one", Kit.text(x, 0, at, "one 5;"), at);
            Kit.due("he knows nothing", x.person(at, 0, 1), 0);
            Kit.due("he is never out", x.person(at, 0, 2), 0);
        }
        ForgetBread day = new ForgetBread();
        Kit.due("a fault", Kit.text(day, 1, -1, "hour;".repeat(30) + "x"), -1);
        Kit.due("a day", Kit.text(day, 1, -1, "hour;".repeat(30)), 0);
        Kit.due("one act", Kit.text(day, 1, 0, "learn 1 2;"), 0);
        Kit.due("one act", day.act(0, -1, 0), 1);
        Kit.due("no third number", day.act(0, 0, 3), -1);
    }

    private static void townsTold() {
        ForgetBread x = new ForgetBread();
        Kit.due("all by default", Kit.text(x, 0, -1, ""), 0);
        int[] plain = {6, 0, 0, 0, 0, 0, 0, 4, 63};
        for (int what = 0; what < plain.length; what++) {
            Kit.due("town(0, " + what + ")", x.town(0, what), plain[what]);
        }
        String text = "facts 3;facts 9;price 0;price 99;rule 8 0;rule 1 7 3 0;one 99;one 0;one 50;"
                + "knows 1 8 0;knows 1 0 2;out 2 9 1 9;out 2 4;sign 9 8;sign 1 0;meet 2 0 9 8;meet 0 1 1 0;"
                + "skill 99 8;skill 0 1 2 3;hurt 7 0 5;";
        Kit.due("town", Kit.text(x, 0, -1, text), 1);
        int[] full = {9, 2, 3, 2, 2, 2, 1, 99, Kit.set(2, 4, 5, 6)};
        for (int what = 0; what < full.length; what++) {
            Kit.due("town(1, " + what + ")", x.town(1, what), full[what]);
        }
        Kit.due("town what", x.town(1, 9), -1);
        for (int odd : ODD) {
            Kit.due("town what", x.town(1, odd), -1);
            Kit.due("no town", x.town(odd, 0), -1);
        }
        Kit.due("no town", x.town(2, 0), -1);
        rows("rule", what -> x.rule(what[0], what[1], what[2]),
                new int[][] {{8, Kit.set(0)}, {1, Kit.set(7, 3, 0)}});
        rows("person", what -> x.person(what[0], what[1], what[2]),
                new int[][] {{99, 0, 0}, {0, Kit.set(8, 0, 2), 0}, {50, 0, Kit.set(9, 1, 4)}});
        rows("sign", what -> x.sign(what[0], what[1], what[2]), new int[][] {{9, 8}, {1, 0}});
        rows("meet", what -> x.meet(what[0], what[1], what[2]), new int[][] {{2, 0, 9, 8}, {0, 1, 1, 0}});
        rows("skill", what -> x.skill(what[0], what[1], false, what[2]),
                new int[][] {{99, Kit.set(8)}, {0, Kit.set(1, 2, 3)}});
        rows("hurt", what -> x.skill(what[0], what[1], true, what[2]), new int[][] {{7, Kit.set(0, 5)}});
    }

    private interface Asked {
        int answer(int[] what);
    }

    private static void rows(String name, Asked asked, int[][] due) {
        for (int row = -1; row <= due.length; row++) {
            for (int what = -1; what < 5; what++) {
                boolean is = row >= 0 && row < due.length && what >= 0 && what < due[row].length;
                Kit.due(name + " " + row + " " + what, asked.answer(new int[] {1, row, what}),
                        is ? due[row][what] : -1);
            }
        }
        for (int odd : ODD) {
            Kit.due(name, asked.answer(new int[] {odd, 0, 0}), -1);
            Kit.due(name, asked.answer(new int[] {1, odd, 0}), -1);
            Kit.due(name, asked.answer(new int[] {1, 0, odd}), -1);
        }
        Kit.due(name + " of the empty town", asked.answer(new int[] {0, 0, 0}), -1);
    }

    private static void actsTold() {
        ForgetBread x = new ForgetBread();
        Kit.due("day", Kit.text(x, 1, -1,
                "whole 4 9;least 0 1;late 1 2;half 2 3;learn 3 4;ask 4 0 5;hour;"), 0);
        int[][] due = {{0, 4, 9, -1}, {1, 0, 1, -1}, {2, 1, 2, -1}, {3, 2, 3, -1}, {4, 3, 4, -1}, {5, 4, 0, 5},
            {6, -1, -1, -1}};
        Kit.due("acts", x.act(0, -1, 0), 7);
        for (int act = 0; act < due.length; act++) {
            for (int what = 0; what < 4; what++) {
                Kit.due("act " + act + " " + what, x.act(0, act, what), due[act][what]);
            }
            Kit.due("act what", x.act(0, act, 4), -2);
            Kit.due("act what", x.act(0, act, -1), -2);
        }
        Kit.due("no such act", x.act(0, 7, 0), -2);
        Kit.due("what of none", x.act(0, -1, 1), -2);
        Kit.due("what of none", x.act(0, -1, -1), -2);
        for (int odd : ODD) {
            if (odd != -1) {
                Kit.due("no such act", x.act(0, odd, 0), -2);
            }
            Kit.due("no such day", x.act(odd, -1, 0), -2);
            Kit.due("no such what", x.act(0, 0, odd), -2);
        }
        Kit.due("no such day", x.act(1, -1, 0), -2);
        Kit.due("an empty day", Kit.text(x, 1, 0, ""), 0);
        Kit.due("no acts", x.act(0, -1, 0), 0);
        Kit.due("no act", x.act(0, 0, 0), -2);
    }

    private static void images() {
        ForgetBread x = Kit.of("facts 5;rule 1 0;one 7;knows 0 0;", "hour;");
        Kit.feed(x, "facts 5;x");
        Kit.due("image", x.image(0), true);
        Kit.due("a fault", x.text(0, -1), -1);
        Kit.due("image with the fault", x.image(2), true);
        Kit.due("not made", x.back(1), false);
        for (int k : new int[] {-1, 3, Integer.MIN_VALUE, Integer.MAX_VALUE}) {
            Kit.due("image " + k, x.image(k), false);
            Kit.due("back " + k, x.back(k), false);
        }
        Kit.due("another town", Kit.text(x, 0, 0, "facts 3;rule 2 0;one 9;knows 0 0;"), 0);
        Kit.due("a second town", Kit.text(x, 0, -1, "price 1;"), 1);
        Kit.due("another day", Kit.text(x, 1, 0, "hour;hour;"), 0);
        Kit.due("a second day", Kit.text(x, 1, -1, ""), 1);
        Kit.due("reach", x.reach(0, 1), 5);
        Kit.due("image", x.image(1), true);
        Kit.due("back", x.back(0), true);
        Kit.due("the tape is there again", x.end(10), -1);
        Kit.due("the tape is there again", x.end(9), 9);
        Kit.due("fault", x.fault(0), 0);
        Kit.due("facts", x.town(0, 0), 5);
        Kit.due("reach", x.reach(0, 1), 3);
        Kit.due("taste", x.person(0, 0, 0), 7);
        Kit.due("towns", x.count(0), 1);
        Kit.due("days", x.count(1), 1);
        Kit.due("acts", x.act(0, -1, 0), 1);
        Kit.due("no second town", x.town(1, 7), -1);
        Kit.due("back to the fault", x.back(2), true);
        Kit.due("fault", x.fault(0), 1);
        Kit.due("place", x.fault(1), 8);
        Kit.due("an empty tape", x.end(1), -1);
        Kit.due("back", x.back(1), true);
        Kit.due("reach", x.reach(0, 1), 5);
        Kit.due("price", x.town(1, 7), 1);
        Kit.due("days", x.count(1), 2);
        Kit.due("acts", x.act(0, -1, 0), 2);
        Kit.due("the same image again", x.image(0), true);
        Kit.due("another town", Kit.text(x, 0, 0, ""), 0);
        Kit.due("back to what is new in it", x.back(0), true);
        Kit.due("facts", x.town(0, 0), 3);
        Kit.due("back twice", x.back(0), true);
        Kit.due("facts", x.town(0, 0), 3);
        Kit.due("the other images stay", x.back(2), true);
        Kit.due("facts", x.town(0, 0), 5);
    }
}
