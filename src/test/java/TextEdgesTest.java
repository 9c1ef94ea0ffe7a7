/** Term 1: what there may be of each thing, the tokens, the lines, and the faults with their places. */
public final class TextEdgesTest {
    private static final String FIVE = "one 0;".repeat(5);
    private static final String TWO = "one 0;one 0;";

    private TextEdgesTest() {
    }

    public static void main(String[] args) {
        facts();
        factsFromNought();
        rules();
        ruleFacts();
        people();
        tastes();
        whatIsKnown();
        hoursOut();
        signs();
        meetings();
        meetingOfOne();
        skillsAndHurts();
        skillNumbers();
        prices();
        acts();
        blanks();
        letters();
        words();
        digits();
        closes();
        bytes();
        townLines();
        moreNumbers();
        unlike();
        toldAhead();
        dayLines();
        dayPeople();
        factNumbers();
        laterOnes();
        furtherOnes();
        faultOne();
        endsPlace();
        firstByPlace();
        linesWithWrongNumbers();
        oneMore();
        fourthFact();
        faultFour();
        fullTown();
        townsAndDays();
        fullCounts();
        Kit.close();
    }

    private static void good(String text) {
        Kit.fault(0, text, 0, -1);
    }

    private static void goodDay(String text) {
        Kit.fault(1, text, 0, -1);
    }

    private static void facts() {
        Kit.sentence("Term 1", "A TOWN has FACTS, 1 .. 10 (6 at first), from 0 on");
        Kit.fault(0, "facts 0;", 2, 6);
        Kit.fault(0, "facts 00;", 2, 6);
        Kit.fault(0, "facts 11;", 2, 6);
        Kit.fault(0, "facts 12;", 2, 6);
        Kit.fault(0, "facts 99;", 2, 6);
        Kit.fault(0, "facts 100;", 1, 6);
        for (int many = 1; many <= 10; many++) {
            Kit.due("facts " + many, Kit.of("facts " + many + ";").town(0, 0), many);
        }
        Kit.due("facts 01", Kit.of("facts 01;").town(0, 0), 1);
        Kit.due("at first", Kit.of("").town(0, 0), 6);
        Kit.due("at first, with others", Kit.of("price 1;rule 1 0;").town(0, 0), 6);
    }

    private static void factsFromNought() {
        Kit.sentence("Term 1", "FACTS, 1 .. 10 (6 at first), from 0 on");
        ForgetBread one = Kit.of("facts 1;one 0;knows 0 0;");
        Kit.due("the only fact", one.twins(0, 0), 0);
        Kit.due("no second fact", one.twins(0, 1), -1);
        Kit.due("its set", one.reach(0, 1), 1);
        Kit.due("no second set", one.reach(0, 2), -1);
        Kit.due("his mind", one.state(0, -1, 0, 10), 1);
        ForgetBread ten = Kit.of("facts 10;one 0;knows 0 0 1 2 3 4 5 6 7 8 9;");
        Kit.due("the tenth fact", ten.twins(0, 9), 0);
        Kit.due("no eleventh fact", ten.twins(0, 10), -1);
        Kit.due("their set", ten.reach(0, 1023), 1023);
        Kit.due("no eleventh in a set", ten.reach(0, 1024), -1);
        Kit.due("his mind", ten.state(0, -1, 0, 10), 1023);
        ForgetBread six = Kit.of("");
        Kit.due("the sixth fact", six.twins(0, 5), 0);
        Kit.due("no seventh fact", six.twins(0, 6), -1);
    }

    private static void rules() {
        Kit.sentence("Term 1", "RULES, at most 16, from 0 on");
        Kit.due("none", Kit.of("").town(0, 1), 0);
        Kit.due("no first one", Kit.of("").rule(0, 0, 0), -1);
        String fifteen = "rule 1 0;".repeat(15);
        Kit.due("15", Kit.of(fifteen).town(0, 1), 15);
        ForgetBread x = Kit.of(fifteen + "rule 3 2;");
        Kit.due("16", x.town(0, 1), 16);
        Kit.due("the first one", x.rule(0, 0, 0), 1);
        Kit.due("the last one", x.rule(0, 15, 0), 3);
        Kit.due("the last one counts", x.reach(0, 4), 12);
        Kit.due("no further one", x.rule(0, 16, 0), -1);
        Kit.fault(0, fifteen + "rule 3 2;" + "rule 4 2;", 3, 144);
        Kit.fault(0, fifteen + "rule 3 2; \n rule 4 2;", 3, 147);
        Kit.fault(0, fifteen + "rule 3 2;".repeat(4), 3, 144);
    }

    private static void ruleFacts() {
        Kit.sentence("Term 1", "a FACT that follows from 1 to 3 others");
        Kit.fault(0, "rule;", 1, 4);
        Kit.fault(0, "rule 5;", 1, 6);
        Kit.due("from 1", Kit.of("rule 5 0;").rule(0, 0, 1), 1);
        Kit.due("from 2", Kit.of("rule 5 0 4;").rule(0, 0, 1), 17);
        Kit.due("from 3", Kit.of("rule 5 0 4 1;").rule(0, 0, 1), 19);
        Kit.fault(0, "rule 5 0 4 1 2;", 3, 13);
        Kit.fault(0, "rule 5 0 4 1 2 3;", 3, 13);
        ForgetBread x = Kit.of("rule 5 0 4 1;");
        Kit.due("from all three", x.reach(0, 19), 51);
        Kit.due("not from two", x.reach(0, 17), 17);
        Kit.due("not from two", x.reach(0, 18), 18);
        Kit.due("not from two", x.reach(0, 3), 3);
        Kit.due("not from none", x.reach(0, 0), 0);
    }

    private static void people() {
        Kit.sentence("Term 1", "PEOPLE, at most 5, from 0 on");
        ForgetBread none = Kit.of("");
        Kit.due("none", none.town(0, 2), 0);
        Kit.due("no first one", none.person(0, 0, 0), -1);
        ForgetBread four = Kit.of("one 1;one 2;one 3;one 4;");
        Kit.due("4", four.town(0, 2), 4);
        Kit.due("no fifth one", four.person(0, 4, 0), -1);
        ForgetBread five = Kit.of("one 1;one 2;one 3;one 4;one 55;knows 4 3;out 4 2;sign 2 1;");
        Kit.due("5", five.town(0, 2), 5);
        Kit.due("the first one", five.person(0, 0, 0), 1);
        Kit.due("the last one", five.person(0, 4, 0), 55);
        Kit.due("the last one has a mind", five.state(0, -1, 0, 14), 8);
        Kit.due("the last one is out", five.evening(0, -1, 0, 4), 10);
        Kit.due("no sixth one", five.person(0, 5, 0), -1);
        Kit.fault(0, FIVE + "one 0;", 3, 30);
        Kit.fault(0, FIVE + "\none 0;one 0;", 3, 31);
    }

    private static void tastes() {
        Kit.sentence("Term 1", "TASTE, 0 .. 99");
        for (String told : new String[] {"0", "00", "9", "09", "10", "98", "99"}) {
            Kit.due("taste " + told, Kit.of("one " + told + ";").person(0, 0, 0), Integer.parseInt(told));
        }
        Kit.fault(0, "one 100;", 1, 4);
        Kit.fault(0, "one 000;", 1, 4);
        Kit.fault(0, "one -1;", 1, 4);
        Kit.fault(0, "one 2147483648;", 1, 4);
        Kit.fault(0, "one 4294967296;", 1, 4);
    }

    private static void whatIsKnown() {
        Kit.sentence("Term 1", "FACTS they KNOW at first");
        ForgetBread x = Kit.of("facts 10;one 1;one 1;one 1;knows 1 9;knows 2 0 1 2 3 4 5 6 7 8 9 0 9;");
        Kit.due("nothing", x.person(0, 0, 1), 0);
        Kit.due("nothing in his mind", x.state(0, -1, 0, 10), 0);
        Kit.due("the last fact", x.person(0, 1, 1), 512);
        Kit.due("all facts", x.person(0, 2, 1), 1023);
        Kit.fault(0, "one 1;knows 0;", 1, 13);
        Kit.fault(0, "one 1;knows;", 1, 11);
    }

    private static void hoursOut() {
        Kit.sentence("Term 1", "HOURS, of 1 .. 9, when they are OUT");
        ForgetBread x = Kit.of("one 1;one 1;one 1;one 1;out 1 1;out 2 9;out 3 9 8 7 6 5 4 3 2 1 1 9;");
        int[] due = {0, 2, 512, 1022};
        for (int p = 0; p < due.length; p++) {
            Kit.due("hours of " + p, x.person(0, p, 2), due[p]);
        }
        Kit.fault(0, "one 1;out 0 0;", 2, 12);
        Kit.fault(0, "one 1;out 0 00;", 2, 12);
        Kit.fault(0, "one 1;out 0 10;", 2, 12);
        Kit.fault(0, "one 1;out 0 32;", 2, 12);
        Kit.fault(0, "one 1;out 0 99;", 2, 12);
        Kit.fault(0, "one 1;out 0 1 9 0;", 2, 16);
        Kit.fault(0, "one 1;out 0;", 1, 11);
        Kit.fault(0, "one 1;out;", 1, 9);
    }

    private static void signs() {
        Kit.sentence("Term 1", "SIGNS, at most 12: an HOUR, 1 .. 9, a FACT");
        Kit.due("none", Kit.of("").town(0, 3), 0);
        Kit.due("no first one", Kit.of("").sign(0, 0, 0), -1);
        String eleven = "sign 9 0;".repeat(11);
        Kit.due("11", Kit.of(eleven).town(0, 3), 11);
        ForgetBread x = Kit.of(eleven + "sign 1 5;one 1;out 0 1;");
        Kit.due("12", x.town(0, 3), 12);
        Kit.due("the last one's hour", x.sign(0, 11, 0), 1);
        Kit.due("the last one's fact", x.sign(0, 11, 1), 5);
        Kit.due("the last one is seen", x.evening(0, -1, 0, 0), 32);
        Kit.due("no further one", x.sign(0, 12, 0), -1);
        Kit.fault(0, eleven + "sign 1 5;sign 1 1;", 3, 108);
        Kit.fault(0, "sign 0 0;", 2, 5);
        Kit.fault(0, "sign 10 0;", 2, 5);
        Kit.fault(0, "sign 99 0;", 2, 5);
        good("sign 1 0;sign 9 0;");
        Kit.fault(0, "sign;", 1, 4);
        Kit.fault(0, "sign 1;", 1, 6);
        Kit.fault(0, "sign 1 1 1;", 1, 9);
    }

    private static void meetings() {
        Kit.sentence("Term 1", "MEETINGS, at most 12, from 0 on");
        Kit.due("none", Kit.of(TWO).town(0, 4), 0);
        Kit.due("no first one", Kit.of(TWO).meet(0, 0, 0), -1);
        String eleven = TWO + "meet 0 1 9 0;".repeat(11);
        Kit.due("11", Kit.of(eleven).town(0, 4), 11);
        ForgetBread x = Kit.of(eleven + "meet 1 0 1 5;knows 1 5;");
        Kit.due("12", x.town(0, 4), 12);
        Kit.due("the first one", x.meet(0, 0, 2), 9);
        Kit.due("the last one", x.meet(0, 11, 2), 1);
        Kit.due("at the last one he is told", x.evening(0, -1, 0, 0), 32);
        Kit.due("no further one", x.meet(0, 12, 0), -1);
        Kit.fault(0, eleven + "meet 1 0 1 5;meet 1 0 1 5;", 3, 168);
        Kit.fault(0, TWO + "meet 0 1 0 0;", 2, 21);
        Kit.fault(0, TWO + "meet 0 1 10 0;", 2, 21);
        good(TWO + "meet 0 1 1 0;meet 0 1 9 0;");
    }

    private static void meetingOfOne() {
        Kit.sentence("Term 1", "one who tells another one a FACT at an HOUR");
        Kit.fault(0, TWO + "meet 0 0 1 1;", 2, 19);
        Kit.fault(0, TWO + "meet 1 1 1 1;", 2, 19);
        Kit.fault(0, TWO + "meet 1 01 1 1;", 2, 19);
        Kit.fault(0, FIVE + "meet 4 4 1 1;", 2, 37);
        good(FIVE + "meet 0 4 1 1;meet 4 0 1 1;meet 3 4 1 1;");
    }

    private static void skillsAndHurts() {
        Kit.sentence("Term 1", "SKILLS, HURTS, at most 6 each, from 0 on");
        for (String word : new String[] {"skill", "hurt"}) {
            boolean hurt = word.equals("hurt");
            int what = hurt ? 6 : 5;
            String line = word + " 1 1;";
            String five = line.repeat(5);
            Kit.due("no " + word, Kit.of("").town(0, what), 0);
            Kit.due("no first " + word, Kit.of("").skill(0, 0, hurt, 0), -1);
            Kit.due("5 of " + word, Kit.of(five).town(0, what), 5);
            ForgetBread x = Kit.of("one 1;knows 0 0 1;" + five + word + " 90 0;");
            Kit.due("6 of " + word, x.town(0, what), 6);
            Kit.due("none of the other", x.town(0, 11 - what), 0);
            Kit.due("the first " + word, x.skill(0, 0, hurt, 0), 1);
            Kit.due("the last " + word, x.skill(0, 5, hurt, 0), 90);
            Kit.due("no further " + word, x.skill(0, 6, hurt, 0), -1);
            Kit.due("the last counts", x.worth(0, -1, 0, 0, 0), hurt ? -95 : 95);
            Kit.fault(0, line.repeat(6) + line, 3, 6 * line.length());
        }
        ForgetBread both = Kit.of("skill 1 1;hurt 2 1;".repeat(6));
        Kit.due("6 skills", both.town(0, 5), 6);
        Kit.due("6 hurts", both.town(0, 6), 6);
        Kit.due("the last skill", both.skill(0, 5, false, 0), 1);
        Kit.due("the last hurt", both.skill(0, 5, true, 0), 2);
    }

    private static void skillNumbers() {
        Kit.sentence("Term 1", "how much, 0 .. 99, and 1 to 3 FACTS");
        for (String word : new String[] {"skill", "hurt"}) {
            boolean hurt = word.equals("hurt");
            int at = word.length() + 1;
            Kit.due("least " + word, Kit.of(word + " 0 1;").skill(0, 0, hurt, 0), 0);
            Kit.due("most " + word, Kit.of(word + " 99 1;").skill(0, 0, hurt, 0), 99);
            Kit.fault(0, word + " 100 1;", 1, at);
            Kit.fault(0, word + " -1 1;", 1, at);
            Kit.fault(0, word + " 1;", 1, at + 1);
            Kit.fault(0, word + ";", 1, at - 1);
            Kit.due(word + " of 1", Kit.of(word + " 1 5;").skill(0, 0, hurt, 1), 32);
            Kit.due(word + " of 2", Kit.of(word + " 1 5 0;").skill(0, 0, hurt, 1), 33);
            Kit.due(word + " of 3", Kit.of(word + " 1 5 0 1;").skill(0, 0, hurt, 1), 35);
            Kit.fault(0, word + " 1 5 0 1 2;", 3, at + 8);
        }
    }

    private static void prices() {
        Kit.sentence("Term 1", "a PRICE, 0 .. 99 (4 at first)");
        Kit.due("at first", Kit.of("").town(0, 7), 4);
        Kit.due("at first, with others", Kit.of("facts 9;one 1;").town(0, 7), 4);
        Kit.due("the least", Kit.of("price 0;").town(0, 7), 0);
        Kit.due("the most", Kit.of("price 99;").town(0, 7), 99);
        Kit.fault(0, "price 100;", 1, 6);
        Kit.fault(0, "price -1;", 1, 6);
        Kit.fault(0, "price;", 1, 5);
    }

    private static void acts() {
        Kit.sentence("Term 1", "A DAY has ACTS, at most 30, from 0 on.");
        Kit.due("none", Kit.of("", "").act(0, -1, 0), 0);
        Kit.due("no first one", Kit.of("", "").act(0, 0, 0), -2);
        String many = "hour;".repeat(29);
        Kit.due("29", Kit.of("", many).act(0, -1, 0), 29);
        ForgetBread x = Kit.of("", many + "ask 4 3 9;");
        Kit.due("30", x.act(0, -1, 0), 30);
        Kit.due("the first one", x.act(0, 0, 0), 6);
        Kit.due("the last one", x.act(0, 29, 0), 5);
        Kit.due("the last one's fact", x.act(0, 29, 3), 9);
        Kit.due("no further one", x.act(0, 30, 0), -2);
        Kit.fault(1, many + "ask 4 3 9;hour;", 3, 155);
        Kit.fault(1, many + "ask 4 3 9;\n hour;", 3, 157);
        Kit.fault(1, many + "ask 4 3 9;learn 5 10;", 3, 155);
        String[] last = {"whole 0 0;", "least 0 0;", "late 0 0;", "half 0 0;", "learn 0 0;", "ask 0 1 0;", "hour;"};
        for (String one : last) {
            Kit.due("30 with " + one, Kit.of("", many + one).act(0, -1, 0), 30);
            Kit.fault(1, many + "hour;" + one, 3, 150);
        }
    }

    private static void blanks() {
        Kit.sentence("Term 1", "blanks (10, 32) between");
        good(" ");
        good("\n");
        good("  \n\n  ");
        good("\n price\n \n7 \n;\n ");
        good("price7;one1;");
        Kit.due("no blank between", Kit.of("price7;").town(0, 7), 7);
        Kit.due("many blanks between", Kit.of("price" + " \n".repeat(290) + "7  ;").town(0, 7), 7);
        Kit.fault(0, "price 1 2;", 1, 8);
        Kit.fault(0, "pri ce 1;", 1, 0);
        Kit.fault(0, "price 1\t;", 1, 7);
        Kit.fault(0, "price 1\r\n;", 1, 7);
        Kit.fault(0, "price\u000b1;", 1, 5);
        Kit.fault(0, "price\u001f1;", 1, 5);
        Kit.fault(0, "price!1;", 1, 5);
        // with the highest bit, too, they are no blanks
        Kit.fault(0, "price\u008a1;", 1, 5);
        Kit.fault(0, "price\u00a01;", 1, 5);
    }

    private static void letters() {
        Kit.sentence("Term 1", "TOKENS, as long as they go");
        Kit.fault(0, "prices 1;", 1, 0);
        Kit.fault(0, "pric 1;", 1, 0);
        Kit.fault(0, "p 1;", 1, 0);
        Kit.fault(0, "pricea 1;", 1, 0);
        Kit.fault(0, "pricez 1;", 1, 0);
        Kit.fault(0, "aprice 1;", 1, 0);
        Kit.fault(0, "price`1;", 1, 5);
        Kit.fault(0, "price{1;", 1, 5);
        Kit.fault(0, "Price 1;", 1, 0);
        Kit.fault(0, "pricE 1;", 1, 0);
        Kit.fault(0, "price 1;oneone 1;", 1, 8);
        Kit.fault(1, "hourhour;", 1, 0);
        Kit.fault(0, "z".repeat(600), 1, 0);
        // with the highest bit they are no letters
        Kit.fault(0, "pric\u00e5 1;", 1, 0);
        Kit.fault(0, "price\u00e51;", 1, 5);
    }

    private static void words() {
        Kit.sentence("Term 1", "words, rows of letters a .. z;");
        String[] towns = {"facts 6;", "rule 1 2;", "one 1;", "knows 0 1;", "out 0 1;", "sign 1 1;", "meet 0 1 1 1;", "skill 1 1;",
            "hurt 1 1;", "price 1;"};
        String[] days = {"whole 0 0;", "least 0 0;", "late 0 0;", "half 0 0;", "learn 0 0;", "ask 0 1 0;", "hour;"};
        for (int i = 0; i < towns.length + days.length; i++) {
            String line = i < towns.length ? towns[i] : days[i - towns.length];
            String ahead = i < towns.length ? TWO : "";
            int sort = i < towns.length ? 0 : 1;
            Kit.fault(sort, ahead + line, 0, -1);
            for (int at = 0; line.charAt(at) >= 'a'; at++) {
                for (char sign : new char[] {'a', 'j', 'q', 'z', 'A', (char) (line.charAt(at) - 32), (char) (line.charAt(at) + 128)}) {
                    if (sign != line.charAt(at)) {
                        String wrong = ahead + line.substring(0, at) + sign + line.substring(at + 1);
                        Kit.fault(sort, wrong, 1, ahead.length());
                    }
                    String more = ahead + line.substring(0, at) + sign + line.substring(at);
                    Kit.fault(sort, more, 1, ahead.length());
                }
                Kit.fault(sort, ahead + line.substring(0, at) + line.substring(at + 1), 1, ahead.length());
            }
        }
    }

    private static void digits() {
        Kit.sentence("Term 1", "NUMBERS, 1 or 2 digits");
        good("price 0;price 9;price 00;price 09;price 90;price 99;");
        Kit.fault(0, "price ;", 1, 6);
        Kit.fault(0, "price 000;", 1, 6);
        Kit.fault(0, "price 001;", 1, 6);
        Kit.fault(0, "price 1 ;one 123;", 1, 13);
        Kit.fault(0, "price 1/;", 1, 7);
        Kit.fault(0, "price 1:;", 1, 7);
        Kit.fault(0, "price /;", 1, 6);
        Kit.fault(0, "price :;", 1, 6);
        Kit.fault(0, "price 1a;", 1, 7);
        Kit.fault(0, "price 12345678901234567890;", 1, 6);
        Kit.fault(0, "price 4294967297;", 1, 6);
        Kit.fault(0, "price " + "0".repeat(593) + ";", 1, 6);
        // with the highest bit they are no digits
        Kit.fault(0, "price \u00b1;", 1, 6);
        Kit.fault(0, "price 1\u00b1;", 1, 7);
    }

    private static void closes() {
        Kit.sentence("Term 1", "; one byte");
        good("price 1;price 2 ;");
        Kit.fault(0, ";", 1, 0);
        Kit.fault(0, "price 1;;", 1, 8);
        Kit.fault(0, "price 1 ;\n;", 1, 10);
        Kit.fault(0, "price 1:", 1, 7);
        Kit.fault(0, "price 1<", 1, 7);
        Kit.fault(0, "price 1\u00bb", 1, 7);
        Kit.fault(1, ";", 1, 0);
        Kit.fault(1, "hour;;", 1, 5);
    }

    /** Each byte there is, where a blank, a second digit or another row of letters might be. */
    private static void bytes() {
        Kit.sentence("Term 1", "1 the first byte or token with which no text goes on");
        for (int sign = 0; sign < 256; sign++) {
            char at = (char) sign;
            boolean blank = sign == 10 || sign == 32;
            boolean digit = sign >= '0' && sign <= '9';
            boolean letter = sign >= 'a' && sign <= 'z';
            boolean good = blank || digit;
            Kit.fault(0, "price" + at + "1;", good ? 0 : 1, good ? -1 : letter ? 0 : 5);
            boolean last = good || sign == ';';
            Kit.fault(0, "price 1" + at + (sign == ';' ? "" : ";"), last ? 0 : 1, last ? -1 : 7);
            Kit.fault(1, at + "hour;", blank ? 0 : 1, blank ? -1 : 0);
        }
    }

    private static void townLines() {
        Kit.sentence("Term 1", "A TOWN's text: {('facts' NUMBER | 'rule' NUMBER NUMBER {NUMBER} | 'one' NUMBER");
        good("");
        good("facts 6;rule 1 2;one 1;one 1;knows 0 1;out 0 1;sign 1 1;meet 0 1 1 1;skill 1 1;hurt 1 1;price 1;");
        String[] words = {"whole 0 0;", "least 0 0;", "late 0 0;", "half 0 0;", "learn 0 0;", "ask 0 1 0;", "hour;",
            "fact 1;", "rules 1 2;", "ones 1;", "know 0 1;", "outs 0 1;", "signs 1 1;", "meets 0 1 1 1;",
            "skills 1 1;", "hurts 1 1;", "prices 1;", "town;", "x;", "1;"};
        for (String word : words) {
            Kit.fault(0, word, 1, 0);
            Kit.fault(0, FIVE + word, 1, 30);
        }
        String[] lines = {"facts 6;", "rule 1 2;", "one 1;", "knows 0 1;", "out 0 1;", "sign 1 1;", "meet 0 1 1 1;",
            "skill 1 1;", "hurt 1 1;", "price 1;"};
        for (String line : lines) {
            for (int cut = 1; cut < line.length(); cut++) {
                String start = line.substring(0, cut);
                boolean word = start.length() > line.indexOf(' ') - 1;
                Kit.fault(0, TWO + start, 1, word ? 12 + cut : 12);
            }
        }
    }

    private static void moreNumbers() {
        Kit.sentence("Term 1", "| 'sign' NUMBER NUMBER | 'meet' NUMBER NUMBER NUMBER NUMBER | ('skill' | 'hurt') NUMBER "
                + "NUMBER {NUMBER} | 'price' NUMBER) ';'}");
        Kit.fault(0, "facts 6 6;", 1, 8);
        Kit.fault(0, "one 6 6;", 1, 6);
        Kit.fault(0, "sign 6 5 5;", 1, 9);
        Kit.fault(0, TWO + "meet 0 1 1 1 1;", 1, 25);
        Kit.fault(0, TWO + "meet 0 1 1;", 1, 22);
        Kit.fault(0, TWO + "meet 0 1;", 1, 20);
        Kit.fault(0, TWO + "meet 0;", 1, 18);
        Kit.fault(0, TWO + "meet;", 1, 16);
        Kit.fault(0, "price 6 6;", 1, 8);
        // as many numbers as one likes: the fault is the fourth fact alone
        Kit.fault(0, "rule 1" + " 1".repeat(290) + ";", 2, 7);
        good("one 1;knows 0" + " 1".repeat(290) + ";");
        good("one 1;out 0" + " 1".repeat(290) + ";");
        Kit.fault(0, "skill 1 1 2 3" + " 4".repeat(290) + ";", 3, 14);
        Kit.fault(0, "skill 1 1 2 3" + " 4".repeat(290) + " x;", 1, 594);
    }

    private static void unlike() {
        Kit.sentence("Term 1", "(rule: the FACT that follows, then those it follows from, all unlike;");
        Kit.fault(0, "rule 1 1;", 2, 7);
        Kit.fault(0, "rule 1 0 1;", 2, 9);
        Kit.fault(0, "rule 1 0 2 1;", 2, 11);
        Kit.fault(0, "rule 1 0 0;", 2, 9);
        Kit.fault(0, "rule 1 0 2 0;", 2, 11);
        Kit.fault(0, "rule 1 0 2 02;", 2, 11);
        good("rule 1 0;rule 1 0;rule 0 1;");
        Kit.sentence("Term 1", "skill, hurt: how much, FACTS, all unlike)");
        for (String word : new String[] {"skill", "hurt"}) {
            int at = word.length();
            Kit.fault(0, word + " 1 2 2;", 2, at + 5);
            Kit.fault(0, word + " 1 2 3 2;", 2, at + 7);
            Kit.fault(0, word + " 1 2 3 3;", 2, at + 7);
            // how much is no fact
            good(word + " 2 2;");
            good(word + " 9 1 2;");
        }
        Kit.sentence("Term 1", "a FACT that the line has already, where all are unlike");
        good("one 1;knows 0 1 1;");
        good("one 1;one 1;knows 1 1 1 1;");
        good("one 1;out 0 1 1;");
        good("sign 1 1;sign 2 2;");
        good(TWO + "meet 0 1 1 1;");
    }

    private static void toldAhead() {
        Kit.sentence("Term 1", "knows, out: one who was told ahead, FACTS, HOURS;");
        for (String word : new String[] {"knows", "out"}) {
            int at = word.length() + 1;
            Kit.fault(0, word + " 0 1;", 2, at);
            Kit.fault(0, word + " 0 1;one 1;", 2, at);
            good("one 1;" + word + " 0 1;");
            Kit.fault(0, "one 1;" + word + " 1 1;", 2, 6 + at);
            Kit.fault(0, "one 1;" + word + " 1 1;one 1;", 2, 6 + at);
            good("one 1;one 1;" + word + " 1 1;");
            good(FIVE + word + " 4 1;");
            Kit.fault(0, FIVE + word + " 5 1;", 2, 30 + at);
            Kit.fault(0, FIVE + word + " 32 1;", 2, 30 + at);
            Kit.fault(0, FIVE + word + " 99 1;", 2, 30 + at);
        }
        Kit.sentence("Term 1", "meet: one, another one, both told ahead, HOUR, FACT;");
        Kit.fault(0, "meet 0 1 1 1;", 2, 5);
        Kit.fault(0, "one 1;meet 0 1 1 1;", 2, 13);
        Kit.fault(0, "one 1;meet 1 0 1 1;", 2, 11);
        Kit.fault(0, "one 1;meet 0 1 1 1;one 1;", 2, 13);
        good(TWO + "meet 0 1 1 1;");
        Kit.fault(0, TWO + "meet 0 2 1 1;", 2, 19);
        Kit.fault(0, TWO + "meet 2 0 1 1;", 2, 17);
        Kit.fault(0, TWO + "meet 2 2 1 1;", 2, 17);
        good(FIVE + "meet 4 3 1 1;");
        Kit.fault(0, FIVE + "meet 5 4 1 1;", 2, 35);
        Kit.fault(0, FIVE + "meet 4 5 1 1;", 2, 37);
    }

    private static void dayLines() {
        Kit.sentence("Term 1", "A DAY's text: {(('whole' | 'least' | 'late' | 'half' | 'learn') NUMBER NUMBER | 'ask' "
                + "NUMBER NUMBER NUMBER | 'hour') ';'}");
        goodDay("");
        goodDay("whole 0 0;least 0 0;late 0 0;half 0 0;learn 0 0;ask 0 1 0;hour;");
        String[] words = {"facts 6;", "rule 1 2;", "one 1;", "knows 0 1;", "out 0 1;", "sign 1 1;", "meet 0 1 1 1;",
            "skill 1 1;", "hurt 1 1;", "price 1;", "hours;", "eat 0 0;", "x;", "1;"};
        for (String word : words) {
            Kit.fault(1, word, 1, 0);
            Kit.fault(1, "hour;" + word, 1, 5);
        }
        String[] lines = {"whole 0 0;", "least 0 0;", "late 0 0;", "half 0 0;", "learn 0 0;", "ask 0 1 0;", "hour;"};
        for (String line : lines) {
            int blank = line.indexOf(' ') < 0 ? 4 : line.indexOf(' ');
            for (int cut = 1; cut < line.length(); cut++) {
                Kit.fault(1, "hour;" + line.substring(0, cut), 1, cut >= blank ? 5 + cut : 5);
            }
            int end = line.length() - 1;
            Kit.fault(1, line.substring(0, end) + " 1;", 1, end + 1);
        }
    }

    private static void dayPeople() {
        Kit.sentence("Term 1", "(one, 0 .. 4, a FACT; ask: one, whom, another one, a FACT)");
        for (String word : new String[] {"whole", "least", "late", "half", "learn"}) {
            int at = word.length() + 1;
            goodDay(word + " 0 0;" + word + " 4 9;");
            Kit.fault(1, word + " 5 0;", 2, at);
            Kit.fault(1, word + " 32 0;", 2, at);
            Kit.fault(1, word + " 99 0;", 2, at);
            Kit.fault(1, word + " 4 10;", 2, at + 2);
            goodDay(word + " 1 1;");
        }
        goodDay("ask 0 4 0;ask 4 0 9;ask 3 4 3;ask 3 4 4;");
        Kit.fault(1, "ask 5 0 0;", 2, 4);
        Kit.fault(1, "ask 4 5 0;", 2, 6);
        Kit.fault(1, "ask 4 99 0;", 2, 6);
        Kit.fault(1, "ask 0 0 0;", 2, 6);
        Kit.fault(1, "ask 4 4 0;", 2, 6);
        Kit.fault(1, "ask 4 04 0;", 2, 6);
        Kit.fault(1, "ask 5 5 0;", 2, 4);
        Kit.fault(1, "ask 0 4 10;", 2, 8);
    }

    private static void factNumbers() {
        Kit.sentence("Term 1", "FACTS are 0 .. 9.");
        String ten = "facts 10;" + TWO;
        String[] lines = {"rule # 1;", "rule 1 #;", "rule 1 0 #;", "rule 1 0 2 #;", "knows 0 #;", "knows 0 1 #;",
            "sign 1 #;", "meet 0 1 1 #;", "skill 1 #;", "skill 1 1 #;", "skill 1 1 2 #;", "hurt 1 #;", "hurt 1 1 #;",
            "hurt 1 1 2 #;"};
        for (String line : lines) {
            int at = ten.length() + line.indexOf('#');
            good(ten + line.replace("#", "9"));
            good(ten + line.replace("#", "09"));
            Kit.fault(0, ten + line.replace("#", "10"), 2, at);
            Kit.fault(0, ten + line.replace("#", "32"), 2, at);
            Kit.fault(0, ten + line.replace("#", "99"), 2, at);
            Kit.fault(0, ten + line.replace("#", "100"), 1, at);
        }
        good(ten + "rule 0 1;knows 0 0;sign 1 0;meet 0 1 1 0;skill 1 0;hurt 1 0;");
        String[] acts = {"whole 0 #;", "least 0 #;", "late 0 #;", "half 0 #;", "learn 0 #;", "ask 0 1 #;"};
        for (String act : acts) {
            goodDay(act.replace("#", "0"));
            goodDay(act.replace("#", "9"));
            Kit.fault(1, act.replace("#", "10"), 2, act.indexOf('#'));
            Kit.fault(1, act.replace("#", "99"), 2, act.indexOf('#'));
            Kit.fault(1, act.replace("#", "100"), 1, act.indexOf('#'));
        }
    }

    private static void laterOnes() {
        Kit.sentence("Term 1", "Later ones strike, but RULES, PEOPLE, SIGNS, MEETINGS, SKILLS, HURTS, ACTS and what is "
                + "KNOWN, when one is OUT, which are further ones.");
        ForgetBread x = Kit.of("facts 9;price 9;facts 1;price 0;facts 2;price 98;");
        Kit.due("facts", x.town(0, 0), 2);
        Kit.due("price", x.town(0, 7), 98);
        // what is below the later number is a fact, whatever was told first
        good("facts 1;rule 5 4;facts 6;");
        Kit.fault(0, "facts 6;rule 5 4;facts 5;", 4, 25);
        Kit.fault(0, "facts 99;facts 1;", 2, 6);
    }

    private static void furtherOnes() {
        Kit.sentence("Term 1", "RULES, PEOPLE, SIGNS, MEETINGS, SKILLS, HURTS, ACTS and what is KNOWN, when one is OUT, "
                + "which are further ones.");
        ForgetBread x = Kit.of("rule 1 0;rule 1 0;one 7;one 7;sign 1 1;sign 1 1;meet 0 1 1 1;meet 0 1 1 1;skill 1 1;"
                + "skill 1 1;hurt 1 1;hurt 1 1;knows 0 1;knows 1 5;knows 0 2;knows 0 1;out 0 1;out 1 3;out 0 9;", "hour;hour;");
        for (int what = 1; what < 7; what++) {
            Kit.due("two of " + what, x.town(0, what), 2);
        }
        Kit.due("known", x.person(0, 0, 1), 6);
        Kit.due("known to another one", x.person(0, 1, 1), 32);
        Kit.due("out", x.person(0, 0, 2), 514);
        Kit.due("acts", x.act(0, -1, 0), 2);
    }

    private static void faultOne() {
        Kit.sentence("Term 1", "1 the first byte or token with which no text goes on (a longer row of digits is no token)");
        Kit.fault(0, "price 1;price 100;price x;", 1, 14);
        Kit.fault(0, "price 1;  #;#", 1, 10);
        Kit.fault(0, "price one 1;", 1, 6);
        Kit.fault(0, "price 1 one 1;", 1, 8);
        Kit.fault(0, "100", 1, 0);
        Kit.fault(0, "  100", 1, 2);
        // it goes ahead of all others, wherever it stands
        Kit.fault(0, "facts 0;facts", 1, 13);
        Kit.fault(0, "facts 0;rule 1 1;sign 1 1", 1, 25);
        Kit.fault(0, FIVE + "one 1;x", 1, 36);
        Kit.fault(0, "rule 0 1 2 3 4 x", 1, 15);
        Kit.fault(0, "facts 1;sign 1 9; #", 1, 18);
        Kit.fault(1, "hour;".repeat(31) + "x", 1, 155);
        Kit.fault(1, "ask 9 9 99 9;", 1, 11);
    }

    private static void endsPlace() {
        Kit.sentence("Term 1", "FAULTS of both, with places (a token's first byte; the end's)");
        Kit.fault(0, "price", 1, 5);
        Kit.fault(0, "price ", 1, 6);
        Kit.fault(0, "price 1", 1, 7);
        Kit.fault(0, "price 1\n\n ", 1, 10);
        Kit.fault(1, "ask 1 2 3", 1, 9);
        Kit.fault(1, "hour", 1, 4);
        Kit.fault(0, "price 1;" + " ".repeat(586) + "one 11", 1, 600);
        Kit.fault(0, "price 1;" + " ".repeat(586) + "one 1 ", 1, 600);
        Kit.fault(0, "sign 1 9;" + " ".repeat(591), 4, 600);
        Kit.fault(0, "price 1;" + "\n".repeat(591) + "x", 1, 599);
        Kit.fault(0, "price 1;" + "\n".repeat(592), 0, -1);
    }

    private static void firstByPlace() {
        Kit.sentence("Term 1", "If there is none, the first by place, of one place the least");
        Kit.fault(0, "rule 0 1 2 3 1;", 2, 13);
        Kit.fault(0, "rule 0 1 2 3 0;", 2, 13);
        Kit.fault(0, "rule 0 1 2 3 10;", 2, 13);
        Kit.fault(0, "skill 0 1 2 3 3;", 2, 14);
        Kit.fault(0, "hurt 0 1 2 3 99;", 2, 13);
        Kit.fault(0, "rule 0 1 2 3 4 10;", 3, 13);
        Kit.fault(0, "rule 10 1 2 3 4;", 2, 5);
        Kit.fault(0, "facts 0;" + FIVE + "one 1;", 2, 6);
        Kit.fault(0, FIVE + "one 1;facts 0;", 3, 30);
        Kit.fault(0, "skill 1 1;".repeat(7) + "hurt 1 1;".repeat(7), 3, 60);
        Kit.fault(0, "hurt 1 1;".repeat(7) + "skill 1 1;".repeat(7), 3, 54);
        Kit.fault(0, "rule 0 1 2 3 4;facts 0;", 3, 13);
        Kit.fault(1, "hour;".repeat(29) + "ask 0 0 0;hour;", 2, 151);
        Kit.fault(1, "ask 5 5 10;", 2, 4);
        // a fault of the end comes behind all of these
        Kit.fault(0, "sign 1 9;facts 0;", 2, 15);
        Kit.fault(0, "sign 1 9;" + FIVE + "one 1;", 3, 39);
    }

    private static void linesWithWrongNumbers() {
        Kit.sentence("Term 1", "a line with such a NUMBER tells its rule, one, sign, meeting, skill, hurt, ACT all the same");
        Kit.fault(0, "rule 1 0;".repeat(16) + "rule 1 1;", 3, 144);
        Kit.fault(0, "rule 1 1;" + "rule 1 0;".repeat(16), 2, 7);
        Kit.fault(0, "sign 1 0;".repeat(12) + "sign 0 0;", 3, 108);
        Kit.fault(0, TWO + "meet 0 1 1 1;".repeat(12) + "meet 0 0 1 1;", 3, 168);
        Kit.fault(0, "skill 1 0;".repeat(6) + "skill 1 0 0;", 3, 60);
        Kit.fault(0, "hurt 1 0;".repeat(6) + "hurt 1 10;", 3, 54);
        Kit.fault(1, "hour;".repeat(30) + "whole 5 0;", 3, 150);
        Kit.fault(1, "whole 5 0;" + "hour;".repeat(30), 2, 6);
        // nothing of such a text is told
        ForgetBread x = new ForgetBread();
        Kit.due("rule 1 1;", Kit.text(x, 0, -1, "rule 1 1;"), -1);
        Kit.due("no town", x.town(0, 1), -1);
        Kit.due("no towns", x.count(0), 0);
    }

    private static void oneMore() {
        Kit.sentence("Term 1", "3 one more than there may be of any of these, at its first token");
        Kit.fault(0, "rule 1 0;".repeat(16) + "  rule 1 0;", 3, 146);
        Kit.fault(0, FIVE + "\n\n\none 1;", 3, 33);
        Kit.fault(0, "sign 1 0;".repeat(12) + " sign 1 0;", 3, 109);
        Kit.fault(0, TWO + "meet 0 1 1 1;".repeat(12) + " meet 0 1 1 1;", 3, 169);
        Kit.fault(0, "skill 1 0;".repeat(6) + " skill 1 0;", 3, 61);
        Kit.fault(0, "hurt 1 0;".repeat(6) + " hurt 1 0;", 3, 55);
        Kit.fault(1, "hour;".repeat(30) + " hour;", 3, 151);
        // who is one more can't be told of ahead of the fault
        Kit.fault(0, FIVE + "one 1;knows 5 1;", 3, 30);
        // there is no most of these
        good("facts 6;".repeat(75));
        good("price 66;".repeat(66));
        good("one 1;" + "knows 0 1;".repeat(59));
        good("one 1;" + "out 0 1;".repeat(74));
    }

    private static void fourthFact() {
        Kit.sentence("Term 1", "a fourth FACT that a rule follows from, that a skill or hurt has, at it");
        good("facts 10;rule 9 8 7 6;skill 1 9 8 7;hurt 1 9 8 7;");
        Kit.fault(0, "facts 10;rule 9 8 7 6 5;", 3, 22);
        Kit.fault(0, "facts 10;skill 1 9 8 7 6;", 3, 23);
        Kit.fault(0, "facts 10;hurt 1 9 8 7 6;", 3, 22);
        Kit.fault(0, "facts 10;rule 9 8 7 6 5 4 3;", 3, 22);
        Kit.fault(0, "facts 10;rule 9 8 7 6 \n 5;", 3, 24);
        good("facts 10;one 1;knows 0 9 8 7 6 5;");
    }

    private static void faultFour() {
        Kit.sentence("Term 1", "4 of a TOWN a FACT that was told of and is not below FACTS");
        String[] lines = {"rule # 0;", "rule 0 #;", "rule 0 1 2 #;", "knows 0 #;", "knows 0 0 #;", "sign 1 #;",
            "meet 0 1 1 #;", "skill 1 #;", "skill 1 0 1 #;", "hurt 1 #;", "hurt 1 0 1 #;"};
        for (String line : lines) {
            for (int facts = 4; facts < 10; facts++) {
                String text = TWO + line;
                good("facts " + facts + ";" + text.replace("#", String.valueOf(facts - 1)));
                good(text.replace("#", String.valueOf(facts - 1)) + "facts " + facts + ";");
                String over = text.replace("#", String.valueOf(facts));
                Kit.fault(0, "facts " + facts + ";" + over, 4, 8 + text.length());
                Kit.fault(0, over + "facts " + facts + "; ", 4, 9 + text.length());
            }
            good(TWO + line.replace("#", "5"));
            Kit.fault(0, TWO + line.replace("#", "6"), 4, 12 + line.length());
        }
        good("facts 1;" + TWO + "knows 0 0;out 0 9;sign 9 0;meet 0 1 9 0;skill 9 0;hurt 9 0;price 9;");
        Kit.fault(0, "facts 1;" + TWO + "knows 0 1;", 4, 30);
        // of a day there is no such fault, but an act that can't be
        ForgetBread x = Kit.of("facts 1;one 1;", "learn 0 1;learn 4 9;");
        Kit.due("the day stops at it", x.stop(0, 0), 0);
    }

    private static void fullTown() {
        Kit.sentence("Term 1", "RULES, at most 16, from 0 on: a FACT that follows from 1 to 3 others; PEOPLE, at most 5");
        StringBuilder text = new StringBuilder("facts 10;price 99;" + "one 99;".repeat(5));
        for (int i = 0; i < 16; i++) {
            text.append("rule ").append(1 + i % 8).append(i < 8 ? " 0;" : " 9;");
        }
        text.append("sign 9 9;".repeat(12)).append("meet 3 4 9 9;".repeat(12));
        text.append("skill 9 9;".repeat(6)).append("hurt 9 9;".repeat(6));
        text.append("knows 4 8;");
        text.append("out 4 9;".repeat((600 - text.length()) / 8));
        text.append(" ".repeat(600 - text.length()));
        ForgetBread x = new ForgetBread();
        Kit.due("a tape of " + text.length(), Kit.text(x, 0, -1, text.toString()), 0);
        int[] due = {10, 16, 5, 12, 12, 6, 6, 99, 0};
        for (int what = 0; what < due.length; what++) {
            Kit.due("town " + what, x.town(0, what), due[what]);
        }
        Kit.due("it is kept", x.image(2), true);
        Kit.due("another one", Kit.text(x, 0, 0, ""), 0);
        Kit.due("it comes back", x.back(2), true);
        for (int what = 0; what < due.length; what++) {
            Kit.due("town " + what, x.town(0, what), due[what]);
        }
        Kit.due("the last rule", x.rule(0, 15, 0), 8);
        Kit.due("the last sign", x.sign(0, 11, 0), 9);
        Kit.due("the last meeting", x.meet(0, 11, 1), 4);
        Kit.due("the last skill", x.skill(0, 5, false, 0), 9);
        Kit.due("the last hurt", x.skill(0, 5, true, 1), 512);
    }

    private static void townsAndDays() {
        Kit.sentence("Term 1", "TOWNS, at most 2, DAYS, at most 3, from 0 on.");
        ForgetBread x = new ForgetBread();
        for (int town = 0; town < 2; town++) {
            Kit.due("not yet", x.town(town, 0), -1);
            Kit.due("a further town", Kit.text(x, 0, -1, "price " + (town + 1) + ";"), town);
        }
        Kit.due("one too many", Kit.text(x, 0, -1, "price 9;"), -2);
        Kit.due("the first one", x.town(0, 7), 1);
        Kit.due("the last one", x.town(1, 7), 2);
        Kit.due("no third one", x.town(2, 7), -1);
        for (int day = 0; day < 3; day++) {
            Kit.due("not yet", x.act(day, -1, 0), -2);
            Kit.due("a further day", Kit.text(x, 1, -1, "hour;".repeat(day + 1)), day);
        }
        Kit.due("one too many", Kit.text(x, 1, -1, "hour;"), -2);
        for (int day = 0; day < 3; day++) {
            Kit.due("the day is there", x.act(day, -1, 0), day + 1);
        }
        Kit.due("no fourth one", x.act(3, -1, 0), -2);
    }

    private static void fullCounts() {
        Kit.sentence("Term 1", "DAYS, at most 3");
        ForgetBread x = new ForgetBread();
        for (int i = 0; i < 9; i++) {
            Kit.due("days of faults are none", Kit.text(x, 1, -1, "x"), -1);
        }
        for (int day = 0; day < 3; day++) {
            Kit.due("a further day", Kit.text(x, 1, -1, ""), day);
        }
        for (int i = 0; i < 9; i++) {
            Kit.due("in the place of one", Kit.text(x, 1, i % 3, "hour;"), i % 3);
        }
        Kit.due("days", x.count(1), 3);
        Kit.due("one too many", Kit.text(x, 1, -1, ""), -2);
    }
}
