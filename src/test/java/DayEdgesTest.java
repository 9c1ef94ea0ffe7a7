/** Terms 2, 4 and 5, promises 13 to 17, 22, 23, 35, 38, 43 and 46: days, states, hours, evenings, seeds. */
public final class DayEdgesTest {
    private static final int MIN = Edge.MIN;
    private static final int MAX = Edge.MAX;
    private static final String NINE = "hour;".repeat(9);
    private static final int[] SEEDS = {0, 1, 2, 5, 99, 100, 12345, 65535, 65536, -1, -2, -100, -65536, MIN, MIN + 1, MAX,
        MAX - 1, 1103515245, -1103515245, 1 << 30, 0x55555555, 0xAAAAAAAA};

    private DayEdgesTest() {
    }

    public static void main(String[] args) {
        closedMinds();
        learning();
        firstStates();
        loaves();
        halves();
        learnAndAsk();
        hourOfSigns();
        hourOfMeetings();
        hourNine();
        noSuchOne();
        noSuchFact();
        hasItNot();
        noTenthHour();
        stops();
        stopNone();
        whens();
        whenNone();
        states();
        stateOfOne();
        stateNone();
        stateWhat();
        coins();
        allWithoutPeople();
        lost();
        news();
        evenings();
        worths();
        worthNone();
        agains();
        againNone();
        finds();
        spreads();
        draws();
        tastes();
        whichFact();
        noFactsNoNumber();
        daysBelowNine();
        thenAsByHour();
        daysNone();
        wholeDay();
        wholeNone();
        known();
        knownNone();
        Kit.close();
    }

    private static void stop(String town, String day, int due) {
        Kit.due("stop of " + day, Kit.of(town, day).stop(0, 0), due);
    }

    private static void closedMinds() {
        Kit.sentence("Term 2", "A MIND is a set of FACTS (bits) that is CLOSED: of each RULE from whose FACTS all are in it "
                + "what follows is in it, too.");
        ForgetBread x = Kit.of("facts 10;rule 9 0 1 2;rule 8 9;one 0;one 0;one 0;one 0;knows 0 0 1;knows 1 0 1 2;knows 2 9;");
        int[] due = {3, 775, 768, 0};
        for (int p = 0; p < due.length; p++) {
            Kit.due("mind of " + p, x.state(0, -1, 0, 10 + p), due[p]);
        }
        Kit.due("but two of three facts", x.reach(0, 6), 6);
        Kit.due("all three", x.reach(0, 7), 775);
        Kit.due("the empty set", x.reach(0, 0), 0);
    }

    private static void learning() {
        Kit.sentence("Term 2", "To LEARN FACTS is to have them and all that follows, again and again.");
        // nine rules, told from the last to the first, and from the first to the last
        StringBuilder last = new StringBuilder("facts 10;one 0;one 0;");
        StringBuilder first = new StringBuilder("facts 10;one 0;one 0;");
        for (int fact = 1; fact < 10; fact++) {
            first.append("rule ").append(fact).append(' ').append(fact - 1).append(';');
            last.append("rule ").append(10 - fact).append(' ').append(9 - fact).append(';');
        }
        for (String rules : new String[] {last.toString(), first.toString()}) {
            ForgetBread x = Kit.of(rules + "knows 0 0;out 1 1;sign 1 1;", "learn 1 0;", "ask 1 0 9;ask 1 0 8;");
            Kit.due("known at first", x.state(0, -1, 0, 10), 1023);
            Kit.due("learnt", x.state(0, 0, 1, 11), 1023);
            Kit.due("asked", x.state(0, 1, 1, 11), 512);
            Kit.due("asked", x.state(0, 1, 2, 11), 768);
            Kit.due("seen", x.evening(0, -1, 0, 1), 1022);
            for (int fact = 0; fact < 10; fact++) {
                Kit.due("reach of " + fact, x.reach(0, 1 << fact), 1024 - (1 << fact));
            }
        }
    }

    private static void firstStates() {
        Kit.sentence("Term 2", "A STATE of a TOWN is what is behind the first n ACTS of a DAY (DAY NONE: behind none; n up to "
                + "STOP): MINDS (at first what each KNOWS, and what follows), HALVES (none at first), LOAVES eaten by each, "
                + "the HOUR (0 at first).");
        ForgetBread x = Kit.of("rule 1 0;one 9;one 9;knows 1 0;", "half 1 0;hour;", "");
        for (int day = -1; day < 2; day++) {
            int[] due = {0, 0, 0, 0, 3, 0, 0};
            for (int what = 0; what < due.length; what++) {
                Kit.due("what " + what + " of day " + day, x.state(0, day, 0, what), due[what]);
            }
            int[] of = {0, 3, 0, 0, 0, 0};
            for (int i = 0; i < of.length; i++) {
                Kit.due("of each", x.state(0, day, 0, 10 + i / 2 * 10 + i % 2), of[i]);
            }
        }
        Kit.due("up to the stop", x.state(0, 0, 2, 0), 1);
        Kit.due("behind the stop", x.state(0, 0, 3, 0), -2);
        Kit.due("behind none", x.state(0, -1, 1, 0), -2);
        Kit.due("no acts", x.state(0, 1, 1, 0), -2);
    }

    private static void loaves() {
        Kit.sentence("Term 2", "whole, least, late: he FORGETS the FACT, if he has it; a LOAF more.");
        String[] words = {"whole", "least", "late", "half"};
        for (String word : words) {
            ForgetBread x = Kit.of("facts 10;" + "one 0;".repeat(5) + "knows 0 0 1 2 3 4 5 6 7 8 9;knows 4 9;",
                    (word + " 0 0;" + word + " 0 9;" + word + " 4 9;" + word + " 0 5;"));
            int[] all = {0, 1, 2, 3, 4};
            int[] first = {0, 1, 2, 2, 3};
            int[] fifth = {0, 0, 0, 1, 1};
            for (int n = 0; n < 5; n++) {
                Kit.due(word + " all loaves", x.state(0, 0, n, 1), all[n]);
                Kit.due(word + " loaves of the first", x.state(0, 0, n, 30), first[n]);
                Kit.due(word + " loaves of the last", x.state(0, 0, n, 34), fifth[n]);
                Kit.due(word + " loaves of another", x.state(0, 0, n, 31), 0);
            }
            Kit.due(word + " mind", x.state(0, 0, 4, 10), 1023 & ~(1 | 32 | 512));
            Kit.due(word + " empty mind", x.state(0, 0, 4, 14), 0);
        }
        // the most loaves there may be: one more than 30 acts can't be told
        StringBuilder thirty = new StringBuilder();
        for (int act = 0; act < 30; act++) {
            thirty.append("least ").append(act / 10).append(' ').append(act % 10).append(';');
        }
        String knows = " 0 1 2 3 4 5 6 7 8 9;";
        ForgetBread most = Kit.of("facts 10;price 99;one 0;one 0;one 0;knows 0" + knows + "knows 1" + knows + "knows 2" + knows,
                thirty.toString());
        Kit.due("stop", most.stop(0, 0), 30);
        Kit.due("30 loaves", most.state(0, 0, 30, 1), 30);
        Kit.due("10 each", most.state(0, 0, 30, 32), 10);
        Kit.due("none but 9", most.state(0, 0, 29, 12), 512);
        Kit.due("nobody has any", most.state(0, 0, 30, 4), 0);
    }

    private static void halves() {
        Kit.sentence("Term 2", "half: as least, and what went comes to his HALF.");
        ForgetBread x = Kit.of("facts 4;rule 3 0 1;one 0;one 0;knows 0 0 1 2;knows 1 2;",
                "half 0 3;half 0 2;learn 0 0;half 0 0;least 0 1;half 1 2;");
        // by least of 3: 0 and 3 go
        int[] due = {0, 9, 13, 13, 13, 13, 13};
        int[] minds = {15, 6, 2, 11, 10, 8, 8};
        for (int n = 0; n < due.length; n++) {
            Kit.due("half behind " + n, x.state(0, 0, n, 20), due[n]);
            Kit.due("mind behind " + n, x.state(0, 0, n, 10), minds[n]);
            Kit.due("half of another one", x.state(0, 0, n, 21), n == 6 ? 4 : 0);
        }
        // what is in a half nobody has
        Kit.due("loaves", x.state(0, 0, 6, 1), 5);
        Kit.due("any", x.state(0, 0, 6, 4), 8);
        Kit.due("lost", x.state(0, 0, 6, 5), 7);
    }

    private static void learnAndAsk() {
        Kit.sentence("Term 2", "learn: he LEARNS it. ask: he LEARNS it, if whom he asks has it.");
        ForgetBread x = Kit.of("facts 3;rule 2 0 1;one 0;one 0;knows 0 0;knows 1 0;",
                "learn 0 0;ask 0 1 0;ask 1 0 0;learn 0 1;ask 1 0 2;ask 1 0 1;");
        int[] first = {1, 1, 1, 1, 7, 7, 7};
        int[] second = {1, 1, 1, 1, 1, 5, 7};
        Kit.due("what one has already can be learnt and asked", x.stop(0, 0), 6);
        for (int n = 0; n < first.length; n++) {
            Kit.due("first behind " + n, x.state(0, 0, n, 10), first[n]);
            Kit.due("second behind " + n, x.state(0, 0, n, 11), second[n]);
        }
        Kit.due("no loaves", x.state(0, 0, 6, 1), 0);
    }

    private static void hourOfSigns() {
        Kit.sentence("Term 2", "hour: the HOUR is one later, 9 at most: those who are OUT, by numbers, LEARN all FACTS of "
                + "SIGNS of the HOUR;");
        ForgetBread x = Kit.of("facts 6;rule 5 1 2;one 0;one 0;one 0;out 0 1 9;out 1 2;sign 1 1;sign 1 2;sign 2 3;sign 9 4;"
                + "sign 9 0;", NINE);
        int[] first = {0, 38, 38, 38, 38, 38, 38, 38, 38, 55};
        for (int n = 0; n < 10; n++) {
            Kit.due("hour", x.state(0, 0, n, 0), n);
            Kit.due("who is out at 1 and 9", x.state(0, 0, n, 10), first[n]);
            Kit.due("who is out at 2", x.state(0, 0, n, 11), n < 2 ? 0 : 8);
            Kit.due("who is never out", x.state(0, 0, n, 12), 0);
        }
    }

    private static void hourOfMeetings() {
        Kit.sentence("Term 2", "then MEETINGS of the HOUR, by numbers: the other one LEARNS the FACT, if the first one has "
                + "it;");
        // what is seen at an hour is told at it, and what is told is told on by a later number alone
        ForgetBread x = Kit.of("facts 3;rule 2 1;one 0;one 0;one 0;one 0;out 0 9;sign 9 1;sign 1 0;meet 2 3 9 2;meet 0 1 9 1;"
                + "meet 1 2 9 2;meet 0 1 1 0;meet 3 0 8 2;", NINE);
        Kit.due("at 8", x.state(0, 0, 8, 4), 0);
        int[] due = {6, 6, 4, 0};
        for (int p = 0; p < due.length; p++) {
            Kit.due("at 9, mind of " + p, x.state(0, 0, 9, 10 + p), due[p]);
        }
        Kit.due("the last meeting of twelve is one", Kit.of("one 0;one 0;knows 0 0;" + "meet 1 0 1 1;".repeat(11)
                + "meet 0 1 1 0;", "hour;").state(0, 0, 1, 11), 1);
    }

    private static void hourNine() {
        Kit.sentence("Term 2", "at 9 then each LEARNS his HALF, which is empty then.");
        ForgetBread x = Kit.of("facts 4;rule 3 0 1;one 0;one 0;knows 0 0 1;knows 1 2;meet 0 1 9 0;",
                "half 0 3;half 1 2;" + NINE + "half 0 1;half 1 2;");
        Kit.due("at 8, half", x.state(0, 0, 10, 20), 9);
        Kit.due("at 8, mind", x.state(0, 0, 10, 10), 2);
        Kit.due("at 9, half", x.state(0, 0, 11, 20), 0);
        Kit.due("at 9, mind", x.state(0, 0, 11, 10), 11);
        Kit.due("at 9, another's half", x.state(0, 0, 11, 21), 0);
        Kit.due("at 9, another's mind: it comes behind the meetings", x.state(0, 0, 11, 11), 4);
        // what comes to a half at 9 stays there
        Kit.due("stop", x.stop(0, 0), 13);
        Kit.due("half behind 9", x.state(0, 0, 13, 20), 2);
        Kit.due("mind behind 9", x.state(0, 0, 13, 10), 9);
        Kit.due("another's half behind 9", x.state(0, 0, 13, 21), 4);
        Kit.due("the evening brings nothing", x.evening(0, 0, 13, 0), 9);
        Kit.due("the evening brings nothing", x.evening(0, 0, 13, 1), 0);
    }

    private static void noSuchOne() {
        Kit.sentence("Term 2", "An ACT can't be, if there is none such (one, FACT)");
        String all = "knows # 0 1;";
        String[] acts = {"whole # 0;", "least # 0;", "late # 0;", "half # 0;", "learn # 3;"};
        for (int people = 0; people < 5; people++) {
            String town = Edge.alike(people, "facts 4;", all);
            for (String act : acts) {
                String last = act.replace("#", String.valueOf(people - 1));
                String next = act.replace("#", String.valueOf(people));
                stop(town, "hour;" + next, 1);
                if (people > 0) {
                    stop(town, "hour;" + last, 2);
                    stop(town, last + next, 1);
                }
            }
            if (people > 1) {
                stop(town, "ask 0 " + (people - 1) + " 1;", 1);
                stop(town, "ask " + (people - 1) + " 0 1;", 1);
                stop(town, "ask 0 " + people + " 1;", 0);
                stop(town, "ask " + people + " 0 1;", 0);
            }
        }
        stop(Edge.alike(5, "facts 4;", all), "whole 4 1;ask 4 3 1;ask 3 4 0;learn 4 3;", 4);
        stop("", "ask 0 1 0;", 0);
    }

    private static void noSuchFact() {
        Kit.sentence("Term 2", "if there is none such (one, FACT), he, or whom he asks, has it not");
        String[] acts = {"whole 0 #;", "least 0 #;", "late 0 #;", "half 0 #;", "learn 0 #;", "ask 0 1 #;"};
        String all = "one 0;one 0;knows 0 0 1 2 3 4 5 6 7 8 9;knows 1 0 1 2 3 4 5 6 7 8 9;";
        for (int facts = 1; facts < 10; facts++) {
            StringBuilder known = new StringBuilder("one 0;one 0;");
            for (int fact = 0; fact < facts; fact++) {
                known.append("knows 0 ").append(fact).append(";knows 1 ").append(fact).append(';');
            }
            for (String act : acts) {
                stop("facts " + facts + ";" + known, act.replace("#", String.valueOf(facts - 1)), 1);
                stop("facts " + facts + ";" + known, act.replace("#", String.valueOf(facts)), 0);
                stop("facts " + facts + ";" + known, act.replace("#", "9"), 0);
            }
        }
        for (String act : acts) {
            stop("facts 10;" + all, act.replace("#", "9"), 1);
        }
    }

    private static void hasItNot() {
        Kit.sentence("Term 2", "he, or whom he asks, has it not, the HOUR is 9 (hour).");
        String town = "facts 3;rule 1 0;one 0;one 0;one 0;knows 0 0;knows 1 2;";
        String[] loaves = {"whole", "least", "late", "half"};
        for (String eat : loaves) {
            stop(town, eat + " 0 1;", 1);
            stop(town, eat + " 0 2;", 0);
            stop(town, eat + " 0 0;" + eat + " 0 0;", 1);
            // with 1 its cause goes, too
            stop(town, eat + " 0 1;" + eat + " 0 0;", 1);
            stop(town, eat + " 2 0;", 0);
        }
        stop(town, "ask 0 1 2;", 1);
        stop(town, "ask 0 1 0;", 0);
        stop(town, "ask 1 0 1;", 1);
        stop(town, "ask 0 2 0;", 0);
        stop(town, "ask 2 0 0;ask 1 2 1;", 2);
        stop(town, "learn 0 2;learn 2 2;learn 0 0;", 3);
        // what is but in a half nobody has
        stop(town, "half 1 2;ask 0 1 2;", 1);
        stop(town, "half 1 2;least 1 2;", 1);
    }

    private static void noTenthHour() {
        Kit.sentence("Term 2", "the HOUR is 9 (hour)");
        stop("", NINE, 9);
        stop("", NINE + "hour;", 9);
        stop("", "hour;".repeat(30), 9);
        stop("one 0;knows 0 0;", NINE + "learn 0 1;least 0 0;whole 0 1;", 12);
        stop("one 0;knows 0 0;", NINE + "learn 0 1;hour;learn 0 2;", 10);
        ForgetBread x = Kit.of("", "hour;".repeat(10));
        Kit.due("the ninth hour", x.state(0, 0, 9, 0), 9);
        Kit.due("no tenth hour", x.state(0, 0, 10, 0), -2);
    }

    private static void stops() {
        Kit.sentence("Term 2", "STOP: the first ACT that can't be, else how many there are.");
        String town = "one 0;knows 0 0;";
        stop(town, "", 0);
        stop(town, "learn 1 0;", 0);
        stop(town, "learn 1 0;learn 0 0;", 0);
        stop(town, "learn 0 0;", 1);
        stop(town, "learn 0 0;".repeat(30), 30);
        stop(town, "learn 0 0;".repeat(29) + "learn 1 0;", 29);
        stop(town, "learn 0 0;".repeat(29), 29);
        stop(town, "learn 0 0;learn 1 0;learn 0 0;learn 1 0;", 1);
    }

    private static void stopNone() {
        Kit.sentence("Promise 13", "NONE: there is none such (of either).");
        ForgetBread empty = new ForgetBread();
        Kit.due("neither", empty.stop(0, 0), -1);
        ForgetBread day = new ForgetBread();
        Kit.due("a day", Kit.text(day, 1, -1, "hour;"), 0);
        Kit.due("no town", day.stop(0, 0), -1);
        Kit.due("a town", Kit.text(day, 0, -1, ""), 0);
        Kit.due("both", day.stop(0, 0), 1);
        ForgetBread x = Edge.towns("", "knows # 0;");
        int[] due = {2, 1, 0};
        for (int d = 0; d < 3; d++) {
            for (int t = 0; t < 2; t++) {
                Kit.due("stop " + t + " " + d, x.stop(t, d), due[d]);
            }
        }
        Edge.none("town", t -> x.stop(t, 0), -1, -1, -2, 2, 3, 32, 33, 65536);
        Edge.none("day", d -> x.stop(0, d), -1, -1, -2, 3, 4, 32, 33, 65536);
    }

    private static void whens() {
        Kit.sentence("Term 2", "WHEN of one and a FACT: the first ACT behind which he has it not, who had it ahead of it.");
        String town = "facts 4;rule 1 0;one 0;one 0;knows 0 0 2;knows 1 2;";
        ForgetBread x = Kit.of(town, "least 0 2;learn 0 2;late 0 2;whole 0 1;learn 0 3;half 0 3;least 0 3;",
                "learn 0 0;".repeat(29) + "least 0 1;", "learn 0 0;".repeat(28) + "learn 1 9;least 0 1;");
        int[] due = {3, 3, 0, 5};
        for (int fact = 0; fact < 4; fact++) {
            Kit.due("when, " + fact, x.when(0, 0, 0, fact), due[fact]);
            Kit.due("another one never", x.when(0, 0, 1, fact), -1);
        }
        Kit.due("the last of 30 acts", x.when(0, 1, 0, 0), 29);
        Kit.due("the last of 30 acts", x.when(0, 1, 0, 1), 29);
        Kit.due("behind the stop nothing goes", x.when(0, 2, 0, 1), -1);
        Kit.due("never", x.when(0, 1, 0, 2), -1);
        Kit.due("he never had it", x.when(0, 1, 0, 3), -1);
    }

    private static void whenNone() {
        Kit.sentence("Promise 14", "NONE: never, or there is none such (of any).");
        ForgetBread empty = new ForgetBread();
        Kit.due("nothing is told", empty.when(0, 0, 0, 0), -1);
        ForgetBread x = new ForgetBread();
        Kit.due("the town of 2", Kit.text(x, 0, -1, Edge.alike(2, "facts 9;", "knows # 0 8;")), 0);
        Kit.due("no days", x.when(0, 0, 0, 0), -1);
        Kit.due("the town of 5", Kit.text(x, 0, -1, Edge.alike(5, "facts 9;", "knows # 0 8;")), 1);
        String eats = "least 0 0;least 0 8;least 1 0;least 1 8;";
        for (int day = 0; day < 3; day++) {
            Kit.due("a day", Kit.text(x, 1, -1, eats), day);
        }
        Kit.due("the last of each", x.when(0, 2, 1, 8), 3);
        Kit.due("the last of each", x.when(1, 2, 1, 8), 3);
        Kit.due("the last one", x.when(1, 2, 4, 8), -1);
        Edge.none("town", t -> x.when(t, 0, 0, 0), -1, -1, -2, 2, 3, 32, 65536);
        Edge.none("day", d -> x.when(0, d, 0, 0), -1, -1, -2, 3, 4, 32, 65536);
        Edge.outside("one of 2", p -> x.when(0, 0, p, 0), -1, 2);
        Edge.outside("one of 5", p -> x.when(1, 0, p, 0), -1, 5);
        Edge.outside("fact", f -> x.when(0, 0, 0, f), -1, 9);
    }

    private static void states() {
        Kit.sentence("Promise 15", "Of a STATE, what 0: the HOUR, 1: all LOAVES, 2: COIN, 3: ALL (all FACTS without PEOPLE), "
                + "4: ANY, 5: LOST, 6: NEWS");
        ForgetBread x = Kit.of("facts 4;rule 3 2;one 0;one 0;knows 0 0 2;knows 1 0 1;meet 1 0 1 1;meet 0 1 1 2;price 9;",
                "least 0 0;half 0 3;hour;");
        int[][] due = {{0, 0, 0, 1, 15, 0, 2}, {0, 1, 9, 0, 15, 0, 2}, {0, 2, 18, 0, 3, 12, 1}, {1, 2, 18, 2, 3, 12, 0}};
        for (int n = 0; n < due.length; n++) {
            for (int what = 0; what < 7; what++) {
                Kit.due("state " + n + " " + what, x.state(0, 0, n, what), due[n][what]);
            }
        }
    }

    private static void stateOfOne() {
        Kit.sentence("Promise 15", "10 + p: the MIND of one, 20 + p: his HALF, 30 + p: his LOAVES.");
        StringBuilder town = new StringBuilder("facts 10;" + "one 0;".repeat(5));
        StringBuilder day = new StringBuilder();
        for (int p = 0; p < 5; p++) {
            town.append("knows ").append(p).append(' ').append(p).append(' ').append(p + 5).append(';');
            day.append("half ").append(p).append(' ').append(p).append(';').append(p < 3 ? "" : "late " + p + " " + (p + 5) + ";");
        }
        ForgetBread x = Kit.of(town.toString(), day.toString());
        Kit.due("stop", x.stop(0, 0), 7);
        for (int p = 0; p < 5; p++) {
            Kit.due("mind at first", x.state(0, 0, 0, 10 + p), 33 << p);
            Kit.due("half at first", x.state(0, 0, 0, 20 + p), 0);
            Kit.due("loaves at first", x.state(0, 0, 0, 30 + p), 0);
            Kit.due("mind", x.state(0, 0, 7, 10 + p), p < 3 ? 32 << p : 0);
            Kit.due("half", x.state(0, 0, 7, 20 + p), 1 << p);
            Kit.due("loaves", x.state(0, 0, 7, 30 + p), p < 3 ? 1 : 2);
        }
    }

    private static void stateNone() {
        Kit.sentence("Promise 15", "-2: there is no such STATE");
        Edge.states((x, t, d, n, p) -> x.state(t, d, n, 4), false, 5, -2, "", "knows # 0 2;");
        Kit.sentence("Promise 15", "-2: there is no such STATE, or for another what.");
        Edge.states((x, t, d, n, p) -> x.state(t, d, n, 10 + p), true, 5, -2, "", "knows # 0 2;");
        Edge.states((x, t, d, n, p) -> x.state(t, d, n, 20 + p), true, 0, -2, "", "knows # 0 2;");
        Edge.states((x, t, d, n, p) -> x.state(t, d, n, 30 + p), true, 0, -2, "", "knows # 0 2;");
    }

    private static void stateWhat() {
        Kit.sentence("Promise 15", "or for another what.");
        for (int people = 0; people < 6; people++) {
            ForgetBread x = Kit.of(Edge.alike(people, "", "knows # 0;"), "hour;");
            for (int what = -40; what < 80; what++) {
                boolean ofOne = what >= 10 && what < 40 && what % 10 < people;
                boolean is = what >= 0 && what < 7 || ofOne;
                Kit.due("what " + what + " of " + people, x.state(0, 0, 1, what) == -2, !is);
            }
            Edge.none("what", what -> x.state(0, 0, 1, what), -2, 110, 256, 266, 65546, MIN + 10, MIN + 20, MAX - 9);
        }
    }

    private static void coins() {
        Kit.sentence("Term 2", "COIN: PRICE times all LOAVES.");
        int[] prices = {0, 1, 4, 98, 99};
        String all = "knows # 0 1 2 3 4 5;";
        StringBuilder eats = new StringBuilder();
        for (int act = 0; act < 30; act++) {
            eats.append("late ").append(act / 6).append(' ').append(act % 6).append(';');
        }
        for (int price : prices) {
            ForgetBread x = Kit.of(Edge.alike(5, "price " + price + ";", all), eats.toString());
            for (int n = 0; n <= 30; n += 15) {
                Kit.due("coin", x.state(0, 0, n, 2), price * n);
            }
        }
        ForgetBread x = Kit.of(Edge.alike(5, "", all), eats.toString());
        Kit.due("the price that is not told", x.state(0, 0, 30, 2), 120);
    }

    private static void allWithoutPeople() {
        Kit.sentence("Promise 15", "3: ALL (all FACTS without PEOPLE)");
        for (int facts = 1; facts <= 10; facts++) {
            ForgetBread x = Kit.of("facts " + facts + ";", "hour;");
            Kit.due("all of " + facts, x.state(0, -1, 0, 3), (1 << facts) - 1);
            Kit.due("all of " + facts, x.state(0, 0, 1, 3), (1 << facts) - 1);
            Kit.due("any", x.state(0, 0, 1, 4), 0);
            Kit.due("lost", x.state(0, 0, 1, 5), 0);
            ForgetBread one = Kit.of("facts " + facts + ";one 0;");
            Kit.due("all of one without facts", one.state(0, -1, 0, 3), 0);
        }
        Kit.sentence("Term 4", "ALL: FACTS that all have, ANY: that any has.");
        ForgetBread x = Kit.of("facts 10;one 0;one 0;one 0;one 0;one 0;knows 0 9 0;knows 1 9 1;knows 2 9;knows 3 9 8;knows 4 9 0;",
                "least 4 9;", "least 0 9;");
        Kit.due("all", x.state(0, -1, 0, 3), 512);
        Kit.due("any", x.state(0, -1, 0, 4), 771);
        Kit.due("but for the last one", x.state(0, 0, 1, 3), 0);
        Kit.due("but for the first one", x.state(0, 1, 1, 3), 0);
        Kit.due("any still", x.state(0, 1, 1, 4), 771);
    }

    private static void lost() {
        Kit.sentence("Term 4", "LOST: FACTS that some one had at first and nobody has.");
        ForgetBread x = Kit.of("facts 10;rule 9 0;one 0;one 0;knows 0 0;knows 1 0 1;",
                "whole 0 9;whole 1 9;least 1 1;learn 0 5;least 0 5;ask 1 0 0;", "learn 1 0;");
        int[] due = {0, 0, 513, 515, 515, 515};
        for (int n = 0; n < due.length; n++) {
            Kit.due("lost behind " + n, x.state(0, 0, n, 5), due[n]);
        }
        Kit.due("nothing at first", x.state(0, 1, 1, 5), 0);
        // what follows was had at first, too; what was learnt since was not
        Kit.due("stop", x.stop(0, 0), 5);
    }

    private static void news() {
        Kit.sentence("Term 4", "NEWS of a STATE: how many times, by SIGNS and MEETINGS up to the EVENING, one LEARNS a FACT "
                + "that he has not (SIGN by SIGN, by their numbers, MEETING by MEETING).");
        ForgetBread none = Kit.of("one 0;out 0 1;sign 2 1;");
        Kit.due("none", none.state(0, -1, 0, 6), 0);
        // two signs of one fact are one news; a fact that follows from one seen ahead of it is none
        ForgetBread signs = Kit.of("rule 2 1;one 0;one 0;out 0 1 9;out 1 9;sign 1 1;sign 1 1;sign 1 2;sign 9 3;sign 9 1;", NINE);
        Kit.due("signs", signs.state(0, -1, 0, 6), 4);
        Kit.due("from 1 on", signs.state(0, 0, 1, 6), 3);
        Kit.due("from 8 on", signs.state(0, 0, 8, 6), 3);
        Kit.due("from 9 on", signs.state(0, 0, 9, 6), 0);
        ForgetBread other = Kit.of("rule 2 1;one 0;out 0 1;sign 1 2;sign 1 1;");
        Kit.due("by their numbers", other.state(0, -1, 0, 6), 2);
        ForgetBread meets = Kit.of("one 0;one 0;knows 0 0;meet 0 1 9 0;meet 0 1 9 0;meet 0 1 9 1;meet 1 0 9 0;", NINE);
        Kit.due("meetings", meets.state(0, -1, 0, 6), 1);
        Kit.due("none at 9", meets.state(0, 0, 9, 6), 0);
        // the half of 9 is no news, and acts are none
        ForgetBread half = Kit.of("one 0;knows 0 0;", "half 0 0;learn 0 1;");
        Kit.due("a half", half.state(0, 0, 2, 6), 0);
        StringBuilder many = new StringBuilder("facts 10;" + "one 0;".repeat(5));
        for (int p = 0; p < 5; p++) {
            many.append("out ").append(p).append(" 1;");
        }
        for (int fact = 0; fact < 10; fact++) {
            many.append("sign 1 ").append(fact).append(';');
        }
        Kit.due("the most", Kit.of(many.toString()).state(0, -1, 0, 6), 50);
    }

    private static void evenings() {
        Kit.sentence("Term 2", "EVENING of a STATE: what is behind so many hours as it takes to 9.");
        ForgetBread x = Kit.of("facts 10;one 0;one 0;out 0 1 2 3 4 5 6 7 8 9;sign 1 1;sign 2 2;sign 3 3;sign 4 4;sign 5 5;sign 6 6;"
                + "sign 7 7;sign 8 8;sign 9 9;", NINE, NINE + "least 0 9;");
        for (int n = 0; n < 10; n++) {
            Kit.due("evening from " + n, x.evening(0, 0, n, 0), 1022);
            Kit.due("the hour of the state stays", x.state(0, 0, n, 0), n);
            Kit.due("the mind of the state stays", x.state(0, 0, n, 10), (2 << n) - 2);
        }
        Kit.due("at 9 no hour comes", x.evening(0, 1, 10, 0), 510);
        Kit.due("nothing comes", x.evening(0, -1, 0, 1), 0);
        Kit.sentence("Promise 16", "NONE: there is no such STATE, or none such.");
        Edge.states((y, t, d, n, p) -> y.evening(t, d, n, p), true, 7, -1, "rule 1 0;", "knows # 0 2;");
    }

    private static void worths() {
        Kit.sentence("Term 2", "WORTH of a MIND: of all SKILLS whose FACTS are all in it how much, together, less that of all "
                + "HURTS whose FACTS are all in it.");
        String all = "one 0;one 0;knows 0 0 1 2;";
        ForgetBread most = Kit.of(all + "skill 99 0 1 2;".repeat(6));
        Kit.due("the most", most.worth(0, -1, 0, 0, 0), 594);
        Kit.due("all skills", most.worth(0, -1, 0, 0, 1), 63);
        Kit.due("no hurts", most.worth(0, -1, 0, 0, 2), 0);
        Kit.due("without facts", most.worth(0, -1, 0, 1, 0), 0);
        ForgetBread least = Kit.of(all + "hurt 99 0 1 2;".repeat(6));
        Kit.due("the least", least.worth(0, -1, 0, 0, 0), -594);
        Kit.due("no skills", least.worth(0, -1, 0, 0, 1), 0);
        Kit.due("all hurts", least.worth(0, -1, 0, 0, 2), 63);
        ForgetBread both = Kit.of(all + "skill 9 0 1 2;skill 8 3;skill 7 2;hurt 5 0 1 3;hurt 4 1;skill 0 0;");
        Kit.due("both", both.worth(0, -1, 0, 0, 0), 12);
        Kit.due("skills", both.worth(0, -1, 0, 0, 1), 13);
        Kit.due("hurts", both.worth(0, -1, 0, 0, 2), 2);
        Kit.due("neither", Kit.of(all).worth(0, -1, 0, 0, 0), 0);
    }

    private static void worthNone() {
        Kit.sentence("Promise 17", "-100000: as evening(), or another what.");
        String town = "skill 9 0;skill 1 1;hurt 2 0;hurt 3 5;hurt 4 2;";
        int[] due = {3, 1, 5};
        for (int what = 0; what < 3; what++) {
            int of = what;
            Edge.states((x, t, d, n, p) -> x.worth(t, d, n, p, of), true, due[what], -100000, town, "knows # 0 2;");
        }
        ForgetBread x = Edge.towns(town, "knows # 0 2;");
        Edge.none("what", what -> x.worth(0, 0, 1, 1, what), -100000, -1, -2, 3, 4, 10, 32, 33, 34, 256, 65536);
    }

    private static void agains() {
        Kit.sentence("Term 3", "AGAIN: the first HOUR, if but hours come, at which he has a FACT.");
        ForgetBread x = Kit.of("facts 6;rule 4 1 2;one 0;one 0;knows 0 0;knows 1 3;out 0 1 9;out 1 9;sign 1 1;sign 9 2;"
                + "meet 1 0 8 3;meet 0 1 9 4;", NINE + "least 0 2;", "half 0 0;");
        int[] first = {0, 1, 9, 8, 9, -1};
        for (int fact = 0; fact < first.length; fact++) {
            Kit.due("again " + fact, x.again(0, -1, 0, 0, fact), first[fact]);
        }
        Kit.due("told at 9", x.again(0, -1, 0, 1, 4), 9);
        Kit.due("at 1 it is there", x.again(0, 0, 1, 0, 1), 1);
        Kit.due("at 5 it is that of the state", x.again(0, 0, 5, 0, 1), 5);
        Kit.due("at 8 one is to come", x.again(0, 0, 8, 0, 2), 9);
        Kit.due("at 9", x.again(0, 0, 9, 0, 2), 9);
        Kit.due("at 9 it does not come again", x.again(0, 0, 10, 0, 2), -1);
        Kit.due("the half of 9", x.again(0, 1, 1, 0, 0), 9);
    }

    private static void againNone() {
        Kit.sentence("Promise 22", "AGAIN: the HOUR (that of the STATE, if he has it). NONE: never, as evening(), or none "
                + "such.");
        Edge.states((x, t, d, n, p) -> x.again(t, d, n, p, 5), true, 9, -1, "sign 9 5;", "out # 9;");
        ForgetBread x = Kit.of("facts 9;one 0;out 0 9;sign 9 8;sign 9 0;", "hour;");
        Kit.due("the last fact", x.again(0, 0, 1, 0, 8), 9);
        Kit.due("never", x.again(0, 0, 1, 0, 7), -1);
        Edge.outside("fact", f -> x.again(0, 0, 1, 0, f), -1, 9);
        ForgetBread ten = Kit.of("facts 10;one 0;out 0 9;sign 9 9;sign 9 0;");
        Kit.due("the last fact", ten.again(0, -1, 0, 0, 9), 9);
        Edge.outside("fact of ten", f -> ten.again(0, -1, 0, 0, f), -1, 10);
    }

    private static void finds() {
        Kit.sentence("Term 3", "FINDS: FACTS that he has not, but in the EVENING.");
        ForgetBread x = Kit.of("facts 10;rule 8 9;one 0;one 0;one 0;knows 0 0;knows 2 0 1 2 3 4 5 6 7 8 9;out 0 9;out 2 9;sign 9 9;"
                + "sign 9 0;", NINE, "half 0 0;", NINE + "half 0 0;");
        Kit.due("what comes", x.finds(0, -1, 0, 0), 768);
        Kit.due("nothing", x.finds(0, -1, 0, 1), 0);
        Kit.due("he has all", x.finds(0, -1, 0, 2), 0);
        Kit.due("at 8", x.finds(0, 0, 8, 0), 768);
        Kit.due("at 9", x.finds(0, 0, 9, 0), 0);
        Kit.due("a half", x.finds(0, 1, 1, 0), 769);
        Kit.due("a half at 9", x.finds(0, 2, 10, 0), 0);
        Kit.sentence("Promise 23", "NONE: as evening().");
        Edge.states((y, t, d, n, p) -> y.finds(t, d, n, p), true, 32, -1, "sign 9 5;sign 9 0;", "knows # 0;out # 9;");
    }

    private static void spreads() {
        Kit.sentence("Promise 35", "NONE: there is no such STATE, or FACT.");
        Edge.states((x, t, d, n, p) -> x.spread(t, d, n, 5) == 31 ? 3 : x.spread(t, d, n, 5), false, 3, -1, "sign 9 5;",
                "out # 9;");
        Edge.states((x, t, d, n, p) -> x.spread(t, d, n, 0), false, 0, -1, "sign 9 5;", "out # 9;");
        ForgetBread x = Edge.towns("facts 9;sign 9 8;", "knows # 7;out # 9;");
        Kit.due("two", x.spread(0, 0, 2, 8), 3);
        Kit.due("five", x.spread(1, 0, 2, 8), 31);
        Kit.due("five have it", x.spread(1, 0, 2, 7), 31);
        Kit.due("nobody", x.spread(1, 0, 2, 6), 0);
        Edge.outside("fact", f -> x.spread(1, 0, 1, f), -1, 9);
        Kit.sentence("Term 4", "SPREAD of a FACT: who (bits) has it in the EVENING.");
        ForgetBread y = Kit.of("facts 10;" + "one 0;".repeat(5) + "knows 0 9;meet 0 4 9 9;meet 4 3 9 9;meet 2 1 9 9;",
                "least 0 9;", "half 0 9;", NINE + "half 0 9;");
        Kit.due("who is told", y.spread(0, -1, 0, 9), 25);
        Kit.due("nobody", y.spread(0, 0, 1, 9), 0);
        Kit.due("by a half behind the meetings", y.spread(0, 1, 1, 9), 1);
        Kit.due("at 9", y.spread(0, 2, 9, 9), 25);
        Kit.due("behind 9", y.spread(0, 2, 10, 9), 24);
        Kit.due("without people", Kit.of("").spread(0, -1, 0, 0), 0);
    }

    /** The k-th number that a seed brings, of 16 bits: in longs, so that nothing wraps but by the mask. */
    private static int drawn(int seed, int k) {
        long x = seed & 0xFFFFFFFFL;
        for (int i = 0; i < k; i++) {
            x = x * 1103515245L + 12345L & 0xFFFFFFFFL;
        }
        return (int) (x >> 16);
    }

    /** The first seed from one on whose k-th number leaves a remainder. */
    private static int seedWith(int from, int k, int by, int remainder) {
        int seed = from;
        while (drawn(seed, k) % by != remainder) {
            seed++;
        }
        return seed;
    }

    private static void draws() {
        Kit.sentence("Term 4", "x becomes x * 1103515245 + 12345 (of 32 bits), it is x shifted right by 16 without sign, "
                + "remainder by n.");
        // at 8 one of 10 facts goes, if the first number is below 50: both numbers are seen
        ForgetBread x = Kit.of("facts 10;one 50;knows 0 0 1 2 3 4 5 6 7 8 9;", "hour;".repeat(8));
        for (int seed : SEEDS) {
            boolean eats = drawn(seed, 1) % 100 < 50;
            int due = eats ? 1023 & ~(1 << drawn(seed, 2) % 10) : 1023;
            Kit.due("mind by " + seed, x.days(0, 0, 8, seed, 10), due);
            Kit.due("loaves by " + seed, x.days(0, 0, 8, seed, 0), eats ? 1 : 0);
        }
        int above = 0;
        for (int from = MIN; above < 40; from += 97531) {
            int seed = from;
            // a number of the highest bit, which a shift with sign would make less than 0
            if (drawn(seed, 1) < 32768) {
                continue;
            }
            above++;
            boolean eats = drawn(seed, 1) % 100 < 50;
            Kit.due("mind by " + seed, x.days(0, 0, 8, seed, 10), eats ? 1023 & ~(1 << drawn(seed, 2) % 10) : 1023);
        }
        above = 0;
        for (int seed = MAX; above < 40; seed -= 13579) {
            if (drawn(seed, 1) % 100 < 50 && drawn(seed, 2) >= 32768) {
                above++;
                Kit.due("mind by " + seed, x.days(0, 0, 8, seed, 10), 1023 & ~(1 << drawn(seed, 2) % 10));
            }
        }
    }

    private static void tastes() {
        Kit.sentence("Term 4", "a number below 100; if it is below TASTE and he has FACTS: a number below how many");
        for (int taste : new int[] {0, 1, 2, 50, 98, 99}) {
            ForgetBread x = Kit.of("facts 1;one " + taste + ";knows 0 0;", "hour;".repeat(8));
            for (int from : new int[] {0, -100000, MIN, 1 << 30}) {
                for (int number = Math.max(0, taste - 1); number <= Math.min(99, taste + 1); number++) {
                    int seed = seedWith(from, 1, 100, number);
                    Kit.due(number + " by taste " + taste, x.days(0, 0, 8, seed, 0), number < taste ? 1 : 0);
                    Kit.due(number + " by taste " + taste, x.days(0, 0, 8, seed, 10), number < taste ? 0 : 1);
                }
                int most = seedWith(from, 1, 100, 99);
                Kit.due("99 by taste " + taste, x.days(0, 0, 8, most, 0), 0);
                int least = seedWith(from, 1, 100, 0);
                Kit.due("0 by taste " + taste, x.days(0, 0, 8, least, 0), taste > 0 ? 1 : 0);
            }
        }
        // the taste 0 draws a number all the same: two has the second one
        ForgetBread two = Kit.of("facts 1;one 0;one 50;knows 0 0;knows 1 0;", "hour;".repeat(8));
        for (int seed : SEEDS) {
            Kit.due("two by " + seed, two.days(0, 0, 8, seed, 11), drawn(seed, 2) % 100 < 50 ? 0 : 1);
        }
    }

    private static void whichFact() {
        Kit.sentence("Term 4", "he eats that one, by their numbers, by LEAST; then as by hour.");
        ForgetBread all = Kit.of("facts 10;one 99;knows 0 0 1 2 3 4 5 6 7 8 9;", "hour;".repeat(8));
        ForgetBread some = Kit.of("facts 10;one 99;knows 0 1 4 9;", "hour;".repeat(8));
        int[] its = {1, 4, 9};
        for (int number = 0; number < 10; number++) {
            int seed = seedWith(number * 1000, 2, 10, number);
            boolean eats = drawn(seed, 1) % 100 < 99;
            Kit.due("number " + number, all.days(0, 0, 8, seed, 10), eats ? 1023 & ~(1 << number) : 1023);
            int of = number % 3;
            int other = seedWith(number * -1000, 2, 3, of);
            boolean then = drawn(other, 1) % 100 < 99;
            Kit.due("number " + of + " of 3", some.days(0, 0, 8, other, 10), then ? 530 & ~(1 << its[of]) : 530);
        }
        // by least: of the fact that follows the least number goes with it
        ForgetBread least = Kit.of("facts 4;rule 3 1 2;one 99;knows 0 1 2;", "hour;".repeat(8));
        int seed = seedWith(7, 2, 3, 2);
        Kit.due("he eats", drawn(seed, 1) % 100 < 99, true);
        Kit.due("by least", least.days(0, 0, 8, seed, 10), 4);
        Kit.due("one loaf", least.days(0, 0, 8, seed, 0), 1);
    }

    private static void noFactsNoNumber() {
        Kit.sentence("Term 4", "if it is below TASTE and he has FACTS");
        // who has none draws one number, who has one draws two
        ForgetBread none = Kit.of("facts 1;one 99;one 50;knows 1 0;", "hour;".repeat(8));
        ForgetBread one = Kit.of("facts 1;one 99;one 50;knows 0 0;knows 1 0;", "hour;".repeat(8));
        for (int seed : SEEDS) {
            Kit.due("none ahead by " + seed, none.days(0, 0, 8, seed, 11), drawn(seed, 2) % 100 < 50 ? 0 : 1);
            int next = drawn(seed, 1) % 100 < 99 ? 3 : 2;
            Kit.due("one ahead by " + seed, one.days(0, 0, 8, seed, 11), drawn(seed, next) % 100 < 50 ? 0 : 1);
        }
        ForgetBread nobody = Kit.of("facts 3;", "hour;".repeat(8));
        Kit.due("without people", nobody.days(0, 0, 8, 1, 0), 0);
        Kit.due("without people", nobody.days(0, 0, 8, 1, 1), 7);
        Kit.due("without people", nobody.days(0, 0, 8, 1, 2), 0);
    }

    private static void daysBelowNine() {
        Kit.sentence("Term 4", "From a STATE on, so long as the HOUR is below 9: of PEOPLE, by numbers");
        ForgetBread x = Kit.of("facts 10;one 99;knows 0 0 1 2 3 4 5 6 7 8 9;", NINE);
        for (int seed : SEEDS) {
            for (int n = 7; n < 10; n++) {
                int mind = 1023;
                int eaten = 0;
                int k = 1;
                for (int hour = n; hour < 9; hour++) {
                    boolean eats = drawn(seed, k++) % 100 < 99;
                    if (eats) {
                        int at = drawn(seed, k++) % Integer.bitCount(mind);
                        int left = mind;
                        for (; at > 0; at--) {
                            left &= left - 1;
                        }
                        mind &= ~Integer.lowestOneBit(left);
                        eaten++;
                    }
                }
                Kit.due("from " + n + " by " + seed, x.days(0, 0, n, seed, 10), mind);
                Kit.due("loaves from " + n + " by " + seed, x.days(0, 0, n, seed, 0), eaten);
            }
            Kit.due("nothing at 9", x.days(0, 0, 9, seed, 2), 1023);
        }
        Kit.due("from 0 nine at most", x.days(0, -1, 0, 3, 0) <= 9, true);
    }

    private static void thenAsByHour() {
        Kit.sentence("Term 4", "then as by hour.");
        // signs, meetings and halves come behind the loaves of each hour
        ForgetBread x = Kit.of("facts 3;one 99;one 0;knows 0 0;out 0 9;sign 9 1;meet 0 1 9 1;meet 0 1 9 0;",
                "half 0 0;hour;hour;hour;hour;hour;hour;hour;hour;", "hour;".repeat(8));
        for (int seed : SEEDS) {
            Kit.due("a half comes back", x.days(0, 0, 9, seed, 10), 3);
            Kit.due("what is seen is told", x.days(0, 0, 9, seed, 11), 2);
            Kit.due("all", x.days(0, 0, 9, seed, 1), 2);
            Kit.due("any", x.days(0, 0, 9, seed, 2), 3);
            boolean eats = drawn(seed, 1) % 100 < 99;
            Kit.due("what is eaten is not told", x.days(0, 1, 8, seed, 11), eats ? 2 : 3);
        }
        Kit.due("the state stays", x.state(0, 1, 8, 0), 8);
        Kit.due("the mind stays", x.state(0, 1, 8, 10), 1);
    }

    private static void daysNone() {
        Kit.sentence("Promise 38", "-2: there is no such STATE, or for another what.");
        Edge.states((x, t, d, n, p) -> x.days(t, d, n, 77, 2), false, 32, -2, "sign 9 5;", "out # 9;");
        Edge.states((x, t, d, n, p) -> x.days(t, d, n, 77, 0), false, 0, -2, "", "");
        for (int people = 0; people < 6; people++) {
            ForgetBread x = Kit.of("one 0;".repeat(people), "hour;");
            for (int what = -20; what < 50; what++) {
                boolean is = what >= 0 && what < 3 || what >= 10 && what < 10 + people;
                Kit.due("what " + what + " of " + people, x.days(0, 0, 1, -1, what) == -2, !is);
            }
            Edge.none("what", what -> x.days(0, 0, 1, 5, what), -2, -10, 20, 30, 110, 256, 65546, MIN + 10, MAX - 9);
        }
        ForgetBread x = Edge.towns("", "knows # 0 2;");
        for (int seed : SEEDS) {
            Kit.due("any seed", x.days(0, 0, 2, seed, 0) >= 0, true);
            Kit.due("no seed makes a state", x.days(0, 0, 3, seed, 0), -2);
        }
    }

    private static void wholeDay() {
        Kit.sentence("Term 5", "SECRETS: FACTS that just one has.");
        ForgetBread x = Kit.of("facts 10;" + "one 0;".repeat(5) + "knows 0 0 9;knows 1 0 1;knows 2 0;knows 3 0 2 9;knows 4 0 3;",
                "least 0 9;", "least 4 3;");
        Kit.due("secrets", x.whole(0, -1, 0, 0), 14);
        Kit.due("of two one", x.whole(0, 0, 1, 0), 526);
        Kit.due("of one none", x.whole(0, 1, 1, 0), 6);
        Kit.due("without people", Kit.of("").whole(0, -1, 0, 0), 0);
        Kit.due("of one all", Kit.of("facts 10;one 0;knows 0 0 9;").whole(0, -1, 0, 0), 513);
        Kit.sentence("Term 5", "BUSY of a STATE: HOURS (bits) up to the EVENING at which some one has more FACTS than ahead of "
                + "it.");
        ForgetBread busy = Kit.of("one 0;one 0;knows 1 0;out 0 1 9;sign 1 1;sign 9 2;sign 2 5;meet 1 0 3 0;meet 1 0 4 0;", NINE,
                "half 1 0;", NINE + "half 1 0;");
        Kit.due("busy", busy.whole(0, -1, 0, 1), 522);
        Kit.due("from 1 on", busy.whole(0, 0, 1, 1), 520);
        Kit.due("from 8 on", busy.whole(0, 0, 8, 1), 512);
        Kit.due("from 9 on", busy.whole(0, 0, 9, 1), 0);
        Kit.due("by a half", busy.whole(0, 1, 1, 1), 514);
        Kit.due("not by a half behind 9", busy.whole(0, 2, 10, 1), 0);
        Kit.due("by a half alone", Kit.of("one 0;knows 0 0;", "half 0 0;").whole(0, 0, 1, 1), 512);
        Kit.due("never", Kit.of("one 0;out 0 1;").whole(0, -1, 0, 1), 0);
        Kit.sentence("Term 5", "SILENT: MEETINGS (bits) to come up to the EVENING by which nobody LEARNS a FACT that he has not "
                + "(those of HOURS that are gone, too).");
        String two = "one 0;one 0;knows 0 0;";
        Kit.due("no meetings", Kit.of(two).whole(0, -1, 0, 2), 0);
        Kit.due("all twelve", Kit.of(two + "meet 1 0 1 0;".repeat(12)).whole(0, -1, 0, 2), 4095);
        Kit.due("but the first", Kit.of(two + "meet 0 1 9 0;".repeat(12)).whole(0, -1, 0, 2), 4094);
        ForgetBread gone = Kit.of(two + "meet 0 1 1 0;meet 0 1 9 1;knows 0 1;", NINE);
        Kit.due("none", gone.whole(0, -1, 0, 2), 0);
        Kit.due("that of 1 is gone", gone.whole(0, 0, 1, 2), 1);
        Kit.due("at 8", gone.whole(0, 0, 8, 2), 1);
        Kit.due("both are gone", gone.whole(0, 0, 9, 2), 3);
    }

    private static void wholeNone() {
        Kit.sentence("Promise 43", "NONE: there is no such STATE, or for another what.");
        String town = "facts 4;sign 9 3;";
        int[] due = {0, 512, 0};
        for (int what = 0; what < 3; what++) {
            int of = what;
            Edge.states((x, t, d, n, p) -> x.whole(t, d, n, of), false, due[what], -1, town, "knows # 0;out # 9;");
        }
        ForgetBread x = Edge.towns(town, "knows # 0;out # 9;");
        Edge.none("what", what -> x.whole(1, 0, 2, what), -1, -1, -2, 3, 4, 10, 32, 33, 34, 256, 65536);
    }

    private static void known() {
        Kit.sentence("Term 5", "KNOWN of a FACT: at how many of the HOURS from that of the STATE to 9 one has it.");
        ForgetBread x = Kit.of("facts 6;rule 4 1 2;one 0;knows 0 0;out 0 1 9;sign 1 1;sign 9 2;", NINE + "least 0 0;",
                "half 0 0;");
        int[] due = {10, 9, 1, 0, 1, 0};
        for (int fact = 0; fact < due.length; fact++) {
            Kit.due("known " + fact, x.known(0, -1, 0, 0, fact), due[fact]);
        }
        for (int n = 0; n < 10; n++) {
            Kit.due("from " + n + " on", x.known(0, 0, n, 0, 0), 10 - n);
            Kit.due("from " + n + " on, 2", x.known(0, 0, n, 0, 2), 1);
        }
        Kit.due("gone at 9", x.known(0, 0, 10, 0, 0), 0);
        Kit.due("back by a half", x.known(0, 1, 1, 0, 0), 1);
    }

    private static void knownNone() {
        Kit.sentence("Promise 46", "NONE: as evening(), or none such.");
        Edge.states((x, t, d, n, p) -> x.known(t, d, n, p, 5), true, 1, -1, "sign 9 5;", "out # 9;");
        ForgetBread x = Kit.of("facts 9;one 0;knows 0 0 8;", "hour;");
        Kit.due("the last fact", x.known(0, 0, 1, 0, 8), 9);
        Edge.outside("fact", f -> x.known(0, 0, 1, 0, f), -1, 9);
    }
}
