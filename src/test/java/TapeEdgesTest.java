/** Promises 1 to 5 and 47 to 49: the tape, texts and their places, the fault, images; and what refused calls leave. */
public final class TapeEdgesTest {
    private static final int MIN = Edge.MIN;
    private static final int MAX = Edge.MAX;

    private TapeEdgesTest() {
    }

    public static void main(String[] args) {
        newObject();
        constant();
        feedHowMany();
        feedTooMany();
        feedBytes();
        tapeHolds();
        endsFirstBytes();
        endsNone();
        textIsTaken();
        textInPlace();
        textFault();
        textAfterFault();
        textNone();
        textNoSort();
        faults();
        faultNone();
        counts();
        images();
        imagesFalse();
        imageOfAll();
        imageOfTape();
        backAll();
        backStays();
        backFalse();
        imagesApart();
        askingLeavesAll();
        askingLeavesNoState();
        callsOfOneObject();
        Kit.close();
    }

    private static void put(ForgetBread x, String text) {
        Kit.feed(x, text);
    }

    private static int feed(ForgetBread x) {
        return x.feed(0x20202020, 0x20202020, 0x20202020, 0x20202020, 0x20202020);
    }

    private static void newObject() {
        Kit.sentence("Promise 1", "No TOWNS, DAYS; no images.");
        ForgetBread x = new ForgetBread();
        Kit.due("towns", x.count(0), 0);
        Kit.due("days", x.count(1), 0);
        Kit.due("no first town", x.town(0, 0), -1);
        Kit.due("no first day", x.act(0, -1, 0), -2);
        for (int k = 0; k < 3; k++) {
            Kit.due("back " + k, x.back(k), false);
        }
        Kit.due("the tape is empty", x.end(1), -1);
        Kit.due("the tape is empty", x.end(0), 0);
        Kit.due("no fault", x.fault(0), 0);
        Kit.due("no place", x.fault(1), -1);
        Kit.due("an empty tape is a town", x.text(0, -1), 0);
        Kit.due("its facts", x.town(0, 0), 6);
        // an object has nothing of another one
        ForgetBread other = new ForgetBread();
        Kit.due("towns of another one", other.count(0), 0);
        Kit.due("a day", other.text(1, -1), 0);
        Kit.due("no days here", x.count(1), 0);
    }

    private static void constant() {
        Kit.sentence("Term 5", "The constants: NONE = -1: There is none.");
        Kit.due("NONE", ForgetBread.NONE, -1);
    }

    private static void callsOfOneObject() {
        Kit.sentence("What it is", "An object is used for at most 512 calls after it has been made; what later calls "
                + "answer is free.");
        ForgetBread x = Kit.of("one 9;knows 0 0;", "least 0 0;");
        // 4 calls each for the town and the day: end, feed, end, text
        for (int call = 9; call < 510; call++) {
            Kit.due("call " + call, x.gone(0, -1, 0, 0, 0, call % 3), 1);
        }
        Kit.due("call 510", x.state(0, 0, 1, 10), 0);
        Kit.due("call 511", x.image(2), true);
        Kit.due("call 512", x.back(2), true);
        for (int call = 513; call < 600; call++) {
            x.feed(call, call, call, call, call);
            x.text(call % 3, call % 5 - 1);
            x.state(0, call % 3, 0, call % 40);
        }
    }

    private static void feedHowMany() {
        Kit.sentence("Promise 2", "The tape: twenty bytes come behind it, of each number the highest first: how many it "
                + "has.");
        ForgetBread x = new ForgetBread();
        for (int many = 20; many <= 600; many += 20) {
            Kit.due("from empty to full", feed(x), many);
        }
        ForgetBread one = new ForgetBread();
        Kit.due("feed", feed(one), 20);
        Kit.due("one byte is left", one.end(1), 1);
        Kit.due("behind it", feed(one), 21);
        Kit.due("none is left", one.end(0), 0);
        Kit.due("behind nothing", feed(one), 20);
    }

    private static void feedTooMany() {
        Kit.sentence("Promise 2", "NONE, and nothing comes, if there would be more than 600.");
        ForgetBread x = new ForgetBread();
        put(x, "price 7;" + " ".repeat(572));
        Kit.due("600 may be", x.feed(0x20202020, 0x20202020, 0x20202020, 0x20202020, 0x2020206f), 600);
        Kit.due("620 may not be", x.feed(0, 0, 0, 0, 0), -1);
        Kit.due("nor again", x.feed(-1, MIN, MAX, 0, 1), -1);
        Kit.due("it has 600", x.end(600), 600);
        Kit.due("and no more", x.end(601), -1);
        Kit.due("it ends ahead of the o", x.end(599), 599);
        Kit.due("619 may not be", x.feed(0, 0, 0, 0, 0), -1);
        Kit.due("it has 599", x.end(600), -1);
        Kit.due("581", x.end(581), 581);
        Kit.due("601 may not be", x.feed(0, 0, 0, 0, 0), -1);
        Kit.due("nothing has come", x.end(582), -1);
        Kit.due("what was there is there", x.text(0, -1), 0);
        Kit.due("its price", x.town(0, 7), 7);
        put(x, " ".repeat(580));
        Kit.due("600 may be", x.feed(0x70726963, 0x65203120, 0x3b207072, 0x69636520, 0x20392037), 600);
        Kit.due("620 may not be", x.feed(0, 0, 0, 0, 0), -1);
        Kit.due("text", x.text(0, -1), -1);
        Kit.due("fault", x.fault(0), 1);
        Kit.due("its place", x.fault(1), 599);
        Kit.due("an emptied tape takes again", x.feed(0, 0, 0, 0, 0), 20);
    }

    private static void feedBytes() {
        Kit.sentence("Promise 2", "twenty bytes come behind it, of each number the highest first");
        // each of the twenty places in turn has the only wrong byte
        int[] wrong = {0, 1, 33, 127, 128, 255, 0x8a, 0xa0, 0xbb};
        for (int at = 0; at < 20; at++) {
            ForgetBread x = new ForgetBread();
            for (int sign : wrong) {
                int[] five = {0x20202020, 0x20202020, 0x20202020, 0x20202020, 0x20202020};
                int shift = 24 - at % 4 * 8;
                five[at / 4] = five[at / 4] & ~(255 << shift) | sign << shift;
                Kit.due("feed", x.feed(five[0], five[1], five[2], five[3], five[4]), 20);
                Kit.due("byte " + sign + " at " + at, x.text(0, -1), -1);
                Kit.due("fault", x.fault(0), 1);
                Kit.due("place of byte " + sign + " at " + at, x.fault(1), at);
            }
        }
        ForgetBread x = new ForgetBread();
        Kit.due("feed", x.feed(0x6f6e6520, 0x31323b6f, 0x6e652033, 0x343b6f6e, 0x65203536), 20);
        Kit.due("feed", x.feed(0x3b202020, 0x20202020, 0x20202020, 0x20202020, 0x20202020), 40);
        Kit.due("text", x.text(0, -1), 0);
        for (int p = 0; p < 3; p++) {
            Kit.due("taste of " + p, x.person(0, p, 0), 12 + 22 * p);
        }
        // the least and the greatest int, and -1
        int[] ints = {MIN, MAX, -1};
        int[] places = {0, 0, 0};
        for (int i = 0; i < ints.length; i++) {
            Kit.due("feed", x.feed(ints[i], 0x20202020, 0x20202020, 0x20202020, 0x20202020), 20);
            Kit.due("text", x.text(1, -1), -1);
            Kit.due("place", x.fault(1), places[i]);
        }
    }

    private static void tapeHolds() {
        Kit.sentence("Term 1", "THE TAPE has at most 600 bytes.");
        Kit.fault(0, "price 6;" + "\n".repeat(583) + "price 77;", 0, -1);
        ForgetBread x = new ForgetBread();
        put(x, "price 6;" + "\n".repeat(583) + "price 77;");
        Kit.due("full", x.feed(0, 0, 0, 0, 0), -1);
        Kit.due("text", x.text(0, -1), 0);
        Kit.due("the last line is read", x.town(0, 7), 77);
        Kit.due("the tape is empty", x.end(1), -1);
        put(x, " ".repeat(592) + "price 7;");
        Kit.due("without the last byte", x.end(599), 599);
        Kit.due("text", x.text(0, -1), -1);
        Kit.due("at the end's place", x.fault(1), 599);
        put(x, "x".repeat(600));
        Kit.due("nothing of it", x.end(0), 0);
        Kit.due("an empty text", x.text(0, -1), 1);
    }

    private static void endsFirstBytes() {
        Kit.sentence("Promise 3", "The tape has its first n bytes alone: n.");
        ForgetBread x = new ForgetBread();
        Kit.due("0 of an empty one", x.end(0), 0);
        put(x, "price 7;one 9;one 8;");
        Kit.due("all of it", x.end(20), 20);
        Kit.due("all of it once more", x.end(20), 20);
        Kit.due("but the last", x.end(19), 19);
        Kit.due("what is gone does not come back", x.end(20), -1);
        Kit.due("the first 14", x.end(14), 14);
        Kit.due("text", x.text(0, -1), 0);
        Kit.due("people", x.town(0, 2), 1);
        Kit.due("price", x.town(0, 7), 7);
        put(x, "x");
        Kit.due("0", x.end(0), 0);
        Kit.due("empty", x.end(1), -1);
        put(x, " ".repeat(600));
        Kit.due("600 of 600", x.end(600), 600);
        Kit.due("599 of 600", x.end(599), 599);
        Kit.due("1 of 599", x.end(1), 1);
    }

    private static void endsNone() {
        Kit.sentence("Promise 3", "NONE if it has not so many, or n is below 0.");
        ForgetBread x = new ForgetBread();
        Edge.none("end of an empty tape", x::end, -1, 1, 2, 20, 600, 601, -1, -2);
        put(x, "price 7;one 9;one 8;");
        Edge.none("end of 20", x::end, -1, 21, 22, 40, 600, 601, -1, -20, -600, 276, 65556);
        Kit.due("the tape is as it was", x.feed(0x6f6e6520, 0x313b2020, 0x20202020, 0x20202020, 0x20202020), 40);
        Kit.due("text", x.text(0, -1), 0);
        Kit.due("people", x.town(0, 2), 3);
        Kit.due("the last one", x.person(0, 2, 0), 1);
        put(x, " ".repeat(600));
        Edge.none("end of 600", x::end, -1, 601, 602, 620, -1);
        Kit.due("it is full still", feed(x), -1);
        Kit.due("it has 600", x.end(600), 600);
    }

    private static void textIsTaken() {
        Kit.sentence("Promise 4", "The tape is taken (and is empty then), as a TOWN (sort 0), a DAY (1), a further one (at "
                + "NONE), or in the place of one: its number.");
        ForgetBread x = new ForgetBread();
        put(x, "price 7;");
        Kit.due("a town", x.text(0, -1), 0);
        Kit.due("the tape is empty", x.end(1), -1);
        Kit.due("the empty tape is a town", x.text(0, -1), 1);
        Kit.due("the first one", x.town(0, 7), 7);
        Kit.due("the second one", x.town(1, 7), 4);
        put(x, "hour;");
        Kit.due("a day", x.text(1, -1), 0);
        Kit.due("the tape is empty", x.end(1), -1);
        for (int day = 1; day < 3; day++) {
            Kit.due("the empty tape is a day", x.text(1, -1), day);
            Kit.due("it has no acts", x.act(day, -1, 0), 0);
        }
        Kit.due("feeding begins at 0", feed(x), 20);
    }

    private static void textInPlace() {
        Kit.sentence("Promise 4", "or in the place of one: its number.");
        ForgetBread x = new ForgetBread();
        Kit.due("a town", Kit.text(x, 0, -1, "price 1;rule 1 0;one 1;knows 0 0;"), 0);
        Kit.due("in the first one's place", Kit.text(x, 0, 0, "price 2;rule 2 0;one 1;knows 0 0;"), 0);
        Kit.due("towns", x.count(0), 1);
        Kit.due("its price", x.town(0, 7), 2);
        Kit.due("its rule", x.reach(0, 1), 5);
        Kit.due("its mind", x.state(0, -1, 0, 10), 5);
        Kit.due("a further town", Kit.text(x, 0, -1, "price 3;"), 1);
        Kit.due("in the last one's place", Kit.text(x, 0, 1, "price 4;facts 1;"), 1);
        Kit.due("in the first one's place, of two", Kit.text(x, 0, 0, ""), 0);
        Kit.due("its price", x.town(0, 7), 4);
        Kit.due("nothing is left of the one before", x.town(0, 1), 0);
        Kit.due("the other one stays", x.town(1, 0), 1);
        Kit.due("towns", x.count(0), 2);
        for (int day = 0; day < 3; day++) {
            Kit.due("a day", Kit.text(x, 1, -1, "hour;learn 0 1;"), day);
        }
        for (int day = 0; day < 3; day++) {
            Kit.due("in its place", Kit.text(x, 1, day, "hour;".repeat(day)), day);
        }
        for (int day = 0; day < 3; day++) {
            Kit.due("its acts", x.act(day, -1, 0), day);
            Kit.due("no further one", x.act(day, day, 0), -2);
        }
        Kit.due("days", x.count(1), 3);
    }

    private static void textFault() {
        Kit.sentence("Promise 4", "NONE: a FAULT.");
        ForgetBread x = new ForgetBread();
        String[] faults = {"x", "facts 0;", "one 1;".repeat(6), "sign 1 6;"};
        for (int i = 0; i < faults.length; i++) {
            Kit.due(faults[i], Kit.text(x, 0, -1, faults[i]), -1);
            Kit.due("fault of " + faults[i], x.fault(0), i + 1);
            Kit.due("the tape is empty", x.end(1), -1);
            Kit.due("no town", x.count(0), 0);
        }
        Kit.due("a town", Kit.text(x, 0, -1, "price 9;rule 1 0;one 5;knows 0 0;"), 0);
        Kit.due("a day", Kit.text(x, 1, -1, "hour;hour;"), 0);
        for (int i = 0; i < faults.length; i++) {
            for (int at = -1; at < 1; at++) {
                Kit.due(faults[i], Kit.text(x, 0, at, faults[i]), -1);
                Kit.due("towns", x.count(0), 1);
                Kit.due("the price stays", x.town(0, 7), 9);
                Kit.due("the rule stays", x.reach(0, 1), 3);
                Kit.due("the one stays", x.person(0, 0, 0), 5);
            }
        }
        String[] days = {"hour", "whole 5 0;", "hour;".repeat(31), "x"};
        for (String day : days) {
            for (int at = -1; at < 1; at++) {
                Kit.due(day, Kit.text(x, 1, at, day), -1);
                Kit.due("the tape is empty", x.end(1), -1);
                Kit.due("days", x.count(1), 1);
                Kit.due("acts", x.act(0, -1, 0), 2);
            }
        }
        Kit.due("the place is free still", Kit.text(x, 1, -1, ""), 1);
        Kit.due("the place is free still", Kit.text(x, 0, -1, ""), 1);
    }

    /** What a text has told, taken or not, is in no later text. */
    private static void textAfterFault() {
        Kit.sentence("Promise 4", "The tape is taken (and is empty then)");
        String full = "facts 10;price 77;rule 9 8 7 6;one 9;one 8;knows 0 9;out 0 9;sign 9 9;meet 0 1 9 9;skill 9 9;hurt 9 9;";
        int[] plain = {6, 0, 0, 0, 0, 0, 0, 4, 63};
        for (String first : new String[] {full, full + "x", full + "facts 0;", full + "facts 9;", full + "rule 0 1 2 3 4;"}) {
            ForgetBread x = new ForgetBread();
            Kit.due("the first text", Kit.text(x, 0, -1, first), first.equals(full) ? 0 : -1);
            int at = x.count(0);
            Kit.due("an empty text", x.text(0, -1), at);
            for (int what = 0; what < plain.length; what++) {
                Kit.due("town " + what + " of the empty text", x.town(at, what), plain[what]);
            }
            Kit.due("people alone", Kit.text(x, 0, at, "one 1;one 2;"), at);
            for (int p = 0; p < 2; p++) {
                Kit.due("he knows nothing", x.person(at, p, 1), 0);
                Kit.due("he is never out", x.person(at, p, 2), 0);
                Kit.due("nothing comes", x.evening(at, -1, 0, p), 0);
            }
            Kit.due("what was told ahead is not told", Kit.text(x, 0, at, "knows 0 1;"), -1);
            Kit.due("its fault", x.fault(0), 2);
            // of the first text some fact is 9, which the second has not
            Kit.due("no fault 4 is left", Kit.text(x, 0, at, "facts 1;"), at);
        }
        ForgetBread day = Kit.of("", "ask 0 1 9;".repeat(30));
        Kit.due("a fault behind 30 acts", Kit.text(day, 1, 0, "hour;".repeat(30) + "hour"), -1);
        Kit.due("30 acts", Kit.text(day, 1, -1, "hour;".repeat(30)), 1);
        Kit.due("no act", day.text(1, 0), 0);
        Kit.due("none is left", day.act(0, -1, 0), 0);
    }

    private static void textNone() {
        Kit.sentence("Promise 4", "-2: there is none such, there are as many as may be, or no such sort (the tape is empty "
                + "then, too; no text is read, FAULT 0).");
        ForgetBread x = new ForgetBread();
        int[] places = {-2, -3, 2, 3, 32, 33, MIN, MIN + 1, MAX, MAX - 1, 65536, 1 << 30};
        for (int sort = 0; sort < 2; sort++) {
            refused(x, sort, 0);
            refused(x, sort, 1);
        }
        Kit.due("a town", Kit.text(x, 0, -1, "price 9;"), 0);
        Kit.due("a day", Kit.text(x, 1, -1, "hour;"), 0);
        for (int sort = 0; sort < 2; sort++) {
            refused(x, sort, 1);
            for (int at : places) {
                refused(x, sort, at);
            }
        }
        Kit.due("the town stays", x.town(0, 7), 9);
        Kit.due("the day stays", x.act(0, -1, 0), 1);
        Kit.sentence("Promise 4", "there are as many as may be");
        ForgetBread full = new ForgetBread();
        for (int i = 0; i < 5; i++) {
            Kit.due("a further one", Kit.text(full, i < 2 ? 0 : 1, -1, ""), i < 2 ? i : i - 2);
        }
        for (int sort = 0; sort < 2; sort++) {
            refused(full, sort, -1);
            refused(full, sort, 2 + sort);
        }
        Kit.due("towns", full.count(0), 2);
        Kit.due("days", full.count(1), 3);
        Kit.due("in the last town's place", Kit.text(full, 0, 1, "price 1;"), 1);
        Kit.due("in the last day's place", Kit.text(full, 1, 2, "hour;"), 2);
    }

    /** A text with a fault and one without, both refused, behind a text that had a fault. */
    private static void refused(ForgetBread x, int sort, int at) {
        String call = "text " + sort + ", " + at;
        int towns = x.count(0);
        int days = x.count(1);
        x.end(0);
        x.feed(-1, -1, -1, -1, -1);
        Kit.due("a fault ahead of it", x.text(0, 0), towns == 0 ? -2 : -1);
        Kit.due("its number", x.fault(0), towns == 0 ? 0 : 1);
        x.feed(-1, -1, -1, -1, -1);
        Kit.due(call, x.text(sort, at), -2);
        Kit.due(call + ": the fault", x.fault(0), 0);
        Kit.due(call + ": no place", x.fault(1), -1);
        Kit.due(call + ": the tape is empty", x.end(1), -1);
        Kit.due(call + ": towns", x.count(0), towns);
        Kit.due(call + ": days", x.count(1), days);
    }

    private static void textNoSort() {
        Kit.sentence("Promise 4", "or no such sort (the tape is empty then, too; no text is read, FAULT 0)");
        for (int at = -1; at < 2; at++) {
            for (int sort : new int[] {-1, -2, 2, 3, 32, 33, MIN, MIN + 1, MAX, 256, 65537}) {
                ForgetBread x = Kit.of("price 9;", "hour;");
                refused(x, sort, at);
                Kit.due("the town stays", x.town(0, 7), 9);
                Kit.due("the day stays", x.act(0, 0, 0), 6);
            }
        }
    }

    private static void faults() {
        Kit.sentence("Promise 5", "Of the latest text(), what 0: the FAULT, 0 without, 1: its place, NONE without.");
        ForgetBread x = new ForgetBread();
        due(x, 0, -1);
        Kit.due("good", Kit.text(x, 0, -1, "price 1;"), 0);
        due(x, 0, -1);
        Kit.due("at the first byte", Kit.text(x, 0, -1, "#"), -1);
        due(x, 1, 0);
        feed(x);
        x.end(3);
        x.count(0);
        x.image(0);
        due(x, 1, 0);
        Kit.due("fault 2", Kit.text(x, 0, 0, "price 1;facts 11;"), -1);
        due(x, 2, 14);
        Kit.due("fault 3", Kit.text(x, 1, -1, "hour;".repeat(31)), -1);
        due(x, 3, 150);
        Kit.due("fault 4", Kit.text(x, 0, -1, "sign 1 9;" + " ".repeat(591)), -1);
        due(x, 4, 600);
        Kit.due("a good day", Kit.text(x, 1, -1, ""), 0);
        due(x, 0, -1);
        Kit.due("at the last byte", Kit.text(x, 0, -1, " ".repeat(599) + "#"), -1);
        due(x, 1, 599);
        Kit.due("refused", Kit.text(x, 0, 9, "#"), -2);
        due(x, 0, -1);
    }

    private static void due(ForgetBread x, int fault, int place) {
        Kit.due("fault(0)", x.fault(0), fault);
        Kit.due("fault(1)", x.fault(1), place);
    }

    private static void faultNone() {
        Kit.sentence("Promise 5", "NONE for another what.");
        ForgetBread x = new ForgetBread();
        Edge.none("what, without a text", x::fault, -1, -1, 2, 3, 10, 32, 33);
        Kit.due("a fault", Kit.text(x, 0, -1, "price 1;facts 11;"), -1);
        Edge.none("what, with a fault", x::fault, -1, -1, -2, 2, 3, 4, 10, 32, 33, 256, 65536);
        due(x, 2, 14);
    }

    private static void counts() {
        Kit.sentence("Promise 47", "How many: 0 TOWNS, 1 DAYS. -2 for another what.");
        ForgetBread x = new ForgetBread();
        for (int towns = 0; towns < 3; towns++) {
            for (int days = 0; days < 4; days++) {
                ForgetBread y = new ForgetBread();
                for (int i = 0; i < towns; i++) {
                    Kit.due("a town", y.text(0, -1), i);
                }
                for (int i = 0; i < days; i++) {
                    Kit.due("a day", y.text(1, -1), i);
                }
                Kit.due("towns", y.count(0), towns);
                Kit.due("days", y.count(1), days);
                Edge.none("what", y::count, -2, -1, -2, 2, 3, 32, 33, 256, 65536);
            }
        }
        Kit.due("another object", x.count(0), 0);
    }

    private static void images() {
        Kit.sentence("Promise 48", "Image k (0 .. 2) is all that is told (the tape, the FAULT, too), as it is now: true;");
        ForgetBread x = new ForgetBread();
        for (int k = 0; k < 3; k++) {
            Kit.due("image " + k, x.image(k), true);
            Kit.due("image " + k + " again", x.image(k), true);
        }
        Kit.due("a town", Kit.text(x, 0, -1, "price 1;"), 0);
        for (int k = 0; k < 3; k++) {
            Kit.due("back " + k, x.back(k), true);
            Kit.due("nothing was told", x.count(0), 0);
        }
    }

    private static void imagesFalse() {
        Kit.sentence("Promise 48", "false for another k.");
        ForgetBread x = Kit.of("price 1;");
        for (int k : new int[] {-1, -2, 3, 4, 32, 33, 256, 65536, MIN, MIN + 1, MAX, MAX - 1}) {
            Kit.due("image " + k, x.image(k), false);
            Kit.due("no image " + k, x.back(k), false);
        }
        for (int k = 0; k < 3; k++) {
            Kit.due("no image has been made", x.back(k), false);
        }
        Kit.due("image 0", x.image(0), true);
        Kit.due("another town", Kit.text(x, 0, 0, "price 2;"), 0);
        for (int k : new int[] {-1, 3, 32, 256, MIN, MAX}) {
            Kit.due("image " + k, x.image(k), false);
        }
        Kit.due("the image is as it was", x.back(0), true);
        Kit.due("its price", x.town(0, 7), 1);
    }

    private static void imageOfAll() {
        Kit.sentence("Promise 48", "(the tape, the FAULT, too)");
        ForgetBread x = new ForgetBread();
        Kit.due("a town", Kit.text(x, 0, -1, "price 1;"), 0);
        Kit.due("a fault", Kit.text(x, 0, -1, "sign 1 9;" + " ".repeat(591)), -1);
        Kit.due("image with fault 4", x.image(0), true);
        Kit.due("another fault", Kit.text(x, 0, -1, " #"), -1);
        Kit.due("image with fault 1", x.image(1), true);
        Kit.due("a day", Kit.text(x, 1, -1, "hour;"), 0);
        Kit.due("image without", x.image(2), true);
        due(x, 0, -1);
        Kit.due("back 0", x.back(0), true);
        due(x, 4, 600);
        Kit.due("days", x.count(1), 0);
        Kit.due("back 1", x.back(1), true);
        due(x, 1, 1);
        Kit.due("back 2", x.back(2), true);
        due(x, 0, -1);
        Kit.due("days", x.count(1), 1);
        Kit.due("towns", x.count(0), 1);
    }

    private static void imageOfTape() {
        Kit.sentence("Promise 49", "All that is as image k has it");
        ForgetBread x = new ForgetBread();
        Kit.due("image of an empty tape", x.image(0), true);
        put(x, "price 11;");
        Kit.due("image of a short tape", x.image(1), true);
        put(x, "price 22;" + " ".repeat(582) + "price 33;");
        Kit.due("image of a full tape", x.image(2), true);
        put(x, "x".repeat(600));
        Kit.due("back to the short one", x.back(1), true);
        Kit.due("its length", x.end(10), -1);
        Kit.due("text of it", x.text(0, -1), 0);
        Kit.due("its price", x.town(0, 7), 11);
        put(x, "y".repeat(600));
        Kit.due("back to the full one", x.back(2), true);
        Kit.due("no towns", x.count(0), 0);
        Kit.due("it is full", feed(x), -1);
        Kit.due("text of it", x.text(0, -1), 0);
        Kit.due("its price", x.town(0, 7), 33);
        put(x, "z");
        Kit.due("back to the empty one", x.back(0), true);
        Kit.due("it is empty", x.end(1), -1);
        Kit.due("feed", feed(x), 20);
        // the text that was taken is there again
        Kit.due("back to the full one again", x.back(2), true);
        Kit.due("591 bytes of it", x.end(591), 591);
        Kit.due("text of them", x.text(0, -1), 0);
        Kit.due("their price", x.town(0, 7), 22);
    }

    private static void backAll() {
        Kit.sentence("Promise 49", "All that is as image k has it (other images stay): true; false if there is none such.");
        ForgetBread x = Kit.of("facts 1;one 1;knows 0 0;", "hour;");
        Kit.due("image", x.image(0), true);
        Kit.due("a full object", Kit.text(x, 0, -1, "facts 9;rule 1 0;one 2;knows 0 0;"), 1);
        Kit.due("a day", Kit.text(x, 1, -1, "hour;hour;"), 1);
        Kit.due("a day", Kit.text(x, 1, -1, "hour;hour;hour;"), 2);
        Kit.due("in the place of the first", Kit.text(x, 0, 0, "facts 8;"), 0);
        Kit.due("in the place of the first", Kit.text(x, 1, 0, "learn 0 0;"), 0);
        Kit.due("image of all", x.image(2), true);
        Kit.due("back", x.back(0), true);
        Kit.due("towns", x.count(0), 1);
        Kit.due("days", x.count(1), 1);
        Kit.due("facts", x.town(0, 0), 1);
        Kit.due("no second town", x.town(1, 0), -1);
        Kit.due("acts", x.act(0, 0, 0), 6);
        Kit.due("no second day", x.act(1, -1, 0), -2);
        Kit.due("no state of the second day", x.state(0, 1, 0, 0), -2);
        Kit.due("the next town is the second again", Kit.text(x, 0, -1, ""), 1);
        Kit.due("nothing is left in it", x.reach(1, 1), 1);
        Kit.due("nobody is left in it", x.person(1, 0, 0), -1);
        Kit.due("back to all", x.back(2), true);
        Kit.due("facts", x.town(0, 0), 8);
        Kit.due("facts of the second", x.town(1, 0), 9);
        Kit.due("reach of the second", x.reach(1, 1), 3);
        Kit.due("days", x.count(1), 3);
        Kit.due("the last day", x.act(2, -1, 0), 3);
        Kit.due("one too many", Kit.text(x, 0, -1, ""), -2);
    }

    private static void backStays() {
        Kit.sentence("Promise 49", "(other images stay)");
        ForgetBread x = new ForgetBread();
        for (int k = 0; k < 3; k++) {
            Kit.due("a town", Kit.text(x, 0, k == 0 ? -1 : 0, "price " + (k + 10) + ";rule " + (k + 1) + " 0;"), 0);
            Kit.due("image " + k, x.image(k), true);
        }
        Kit.due("another", Kit.text(x, 0, 0, "price 50;"), 0);
        int[] order = {1, 1, 0, 2, 1, 2, 0, 0, 2};
        for (int k : order) {
            Kit.due("back " + k, x.back(k), true);
            Kit.due("its price", x.town(0, 7), k + 10);
            Kit.due("its reach", x.reach(0, 1), 1 | 2 << k);
            Kit.due("a text changes no image", Kit.text(x, 0, 0, "price 60;"), 0);
        }
    }

    private static void backFalse() {
        Kit.sentence("Promise 49", "true; false if there is none such.");
        ForgetBread x = Kit.of("price 1;", "hour;");
        Kit.due("image 1", x.image(1), true);
        Kit.due("a fault", Kit.text(x, 0, 0, "facts 0;"), -1);
        Kit.due("a day", Kit.text(x, 1, -1, ""), 1);
        Kit.due("a fault", Kit.text(x, 0, 0, "price 2;facts 0;"), -1);
        put(x, "price 3;");
        for (int k : new int[] {0, 2, -1, 3, 4, 32, 33, 256, 65537, MIN, MIN + 1, MAX, MAX - 1}) {
            Kit.due("back " + k, x.back(k), false);
        }
        due(x, 2, 14);
        Kit.due("days", x.count(1), 2);
        Kit.due("the tape is as it was", x.end(9), -1);
        Kit.due("the text is as it was", x.text(0, 0), 0);
        Kit.due("its price", x.town(0, 7), 3);
        Kit.due("the image is there", x.back(1), true);
        Kit.due("its price", x.town(0, 7), 1);
    }

    private static void imagesApart() {
        Kit.sentence("Promise 48", "as it is now");
        ForgetBread x = Kit.of("price 1;one 1;knows 0 0;");
        Kit.due("image 0", x.image(0), true);
        Kit.due("image 1", x.image(1), true);
        Kit.due("another", Kit.text(x, 0, 0, "price 2;"), 0);
        Kit.due("image 0 anew", x.image(0), true);
        Kit.due("another", Kit.text(x, 0, 0, "price 3;"), 0);
        Kit.due("back 0", x.back(0), true);
        Kit.due("the later one", x.town(0, 7), 2);
        Kit.due("back 1", x.back(1), true);
        Kit.due("the first one", x.town(0, 7), 1);
        Kit.due("image of what is back", x.image(2), true);
        Kit.due("back 0", x.back(0), true);
        Kit.due("back 2", x.back(2), true);
        Kit.due("the first one again", x.state(0, -1, 0, 10), 1);
    }

    /** Calls that ask change nothing, whatever they are asked with. */
    private static void askingLeavesAll() {
        Kit.sentence("Not promised", "Nothing is promised beyond the answers and state changes described above");
        ForgetBread x = Kit.of("facts 3;rule 2 0 1;one 90;one 90;knows 0 0 1;knows 1 0;out 1 9;sign 9 1;meet 0 1 3 2;"
                + "skill 5 2;hurt 3 0;", "half 0 2;hour;");
        Kit.due("a fault", Kit.text(x, 0, -1, " #"), -1);
        put(x, "price 1;");
        int[] odd = {0, MIN, MAX, -1};
        for (int i = 0; i < odd.length; i++) {
            int o = odd[i];
            ask(x, o, 0, 0, 0);
            ask(x, 0, o, 0, 0);
            ask(x, 0, 0, i == 0 ? 2 : o, 0);
            ask(x, 0, 0, 1, o);
        }
        due(x, 1, 1);
        Kit.due("the mind", x.state(0, -1, 0, 10), 7);
        Kit.due("the half", x.state(0, 0, 1, 20), 5);
        Kit.due("the loaves", x.state(0, 0, 2, 1), 1);
        Kit.due("the hour", x.state(0, 0, 0, 0), 0);
        Kit.due("the tape", x.end(9), -1);
        Kit.due("the text", x.text(0, 0), 0);
        Kit.due("its price", x.town(0, 7), 1);
    }

    /** A state is made anew for each call: what is tried in one of them is not there in the next. */
    private static void askingLeavesNoState() {
        Kit.sentence("Not promised", "Nothing is promised beyond the answers and state changes described above");
        ForgetBread x = Kit.of("facts 4;one 90;one 90;one 0;knows 1 0;knows 0 2;knows 1 2;out 0 4;sign 4 1;meet 1 0 3 0;meet 0 2 5 0;"
                + "meet 1 0 9 2;", "hour;least 0 2;half 1 2;");
        for (int round = 0; round < 12; round++) {
            switch (round) {
                case 1: Kit.due("shut", x.shut(0, -1, 0, 0, 0), 1); break;
                case 2: Kit.due("stay", x.stay(0, -1, 0, 0, 1), 16); break;
                case 3: Kit.due("pact", x.pact(0, -1, 0, 0, 2), 2); break;
                case 4: Kit.due("safe", x.safe(0, -1, 0, 1, 0, 0), 1); break;
                case 5: Kit.due("shut", x.shut(0, -1, 0, 2, 0), 1); break;
                case 6: Kit.due("days", x.days(0, 0, 1, 99, 3), -2); break;
                case 7: Kit.due("state", x.state(0, 0, 3, 20), 0); break;
                case 8: Kit.due("no state", x.state(0, 0, 4, 0), -2); break;
                case 9: Kit.due("stop", x.stop(0, 0), 3); break;
                case 10: Kit.due("shut", x.shut(0, 0, 3, 0, 0), 1); break;
                case 11: Kit.due("stay", x.stay(0, 0, 3, 0, 1), 16); break;
                default: break;
            }
            Kit.due("evening behind " + round, x.evening(0, -1, 0, 0), 7);
            Kit.due("evening of another", x.evening(0, -1, 0, 2), 1);
            Kit.due("again", x.again(0, -1, 0, 0, 1), 4);
            Kit.due("news", x.state(0, -1, 0, 6), 3);
            Kit.due("news of the day", x.state(0, 0, 3, 6), 3);
            Kit.due("busy", x.whole(0, -1, 0, 1), 56);
            Kit.due("silent", x.whole(0, -1, 0, 2), 4);
            Kit.due("mind", x.state(0, -1, 0, 10), 4);
            Kit.due("half", x.state(0, -1, 0, 21), 0);
            Kit.due("half of the day", x.state(0, 0, 3, 21), 4);
            Kit.due("loaves", x.state(0, -1, 0, 1), 0);
            Kit.due("hour", x.state(0, -1, 0, 0), 0);
            Kit.due("known", x.known(0, -1, 0, 2, 0), 5);
        }
    }

    private static void ask(ForgetBread x, int t, int d, int n, int p) {
        x.stop(t, d);
        x.when(t, d, p, 0);
        x.state(t, d, n, 6);
        x.evening(t, d, n, p);
        x.worth(t, d, n, p, 0);
        x.gone(t, d, n, p, 0, 1);
        x.keeps(t, d, n, p, 1, 2);
        x.row(t, d, n, p, 1, 2, 0);
        x.safe(t, d, n, p, 2, 0);
        x.best(t, d, n, p, 3, 1);
        x.pact(t, d, n, p, 2);
        x.order(t, d, n, p, 3, 0, 0);
        x.days(t, d, n, p, 0);
        x.stay(t, d, n, p, 1);
        x.shut(t, d, n, p, 1);
        x.trial(t, d, n, p, 7, 2);
        x.known(t, d, n, p, 2);
        x.whole(t, d, n, 1);
    }
}
