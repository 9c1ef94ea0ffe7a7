import java.nio.charset.StandardCharsets;

/** What all tests use: texts fed to a tape, answers compared with those that are due. */
final class Kit {
    private static int wrong = 0;
    private static int asked = 0;
    private static int sentences = 0;
    private static String sentence = "";

    private Kit() {
    }

    /**
     * Opens the test of one sentence of the document, which stands under "Promise n" or "Term n" (SentencesTest looks
     * whether it does): the answers up to the next sentence are its own.
     */
    static void sentence(String where, String words) {
        sentence = where + " \"" + words + "\": ";
        sentences++;
    }

    static void due(String call, long got, long want) {
        asked++;
        if (got != want) {
            wrong++;
            if (wrong <= 50) {
                System.out.println(sentence + call + " answered " + got + ", due is " + want);
            }
        }
    }

    static void due(String call, boolean got, boolean want) {
        due(call, got ? 1 : 0, want ? 1 : 0);
    }

    static boolean failed() {
        return wrong != 0;
    }

    /** To be called last by each main. */
    static void close() {
        String told = sentences == 0 ? "" : sentences + " sentences, ";
        System.out.println(told + asked + " answers, " + wrong + " wrong");
        if (wrong != 0 || asked == 0) {
            System.exit(1);
        }
    }

    static void feed(ForgetBread x, byte[] bytes) {
        int had = x.end(0);
        if (had != 0) {
            throw new IllegalStateException("the tape can't be emptied");
        }
        for (int at = 0; at < bytes.length; at += 20) {
            int[] five = new int[5];
            for (int i = 0; i < 20; i++) {
                int one = at + i < bytes.length ? bytes[at + i] & 255 : 0;
                five[i / 4] = five[i / 4] << 8 | one;
            }
            int has = x.feed(five[0], five[1], five[2], five[3], five[4]);
            if (has != at + 20) {
                throw new IllegalStateException("the tape has " + has);
            }
        }
        if (x.end(bytes.length) != bytes.length) {
            throw new IllegalStateException("the tape can't be ended");
        }
    }

    static void feed(ForgetBread x, String text) {
        feed(x, text.getBytes(StandardCharsets.ISO_8859_1));
    }

    static int text(ForgetBread x, int sort, int at, String text) {
        feed(x, text);
        return x.text(sort, at);
    }

    /** A new object with one town and a day for each further text. */
    static ForgetBread of(String town, String... days) {
        ForgetBread x = new ForgetBread();
        due("text of " + town, text(x, 0, -1, town), 0);
        for (int day = 0; day < days.length; day++) {
            due("text of " + days[day], text(x, 1, -1, days[day]), day);
        }
        return x;
    }

    /** The fault of a text and its place, on a new object. */
    static void fault(int sort, String text, int fault, int place) {
        ForgetBread x = new ForgetBread();
        String shown = "'" + text + "'";
        due("text " + shown, text(x, sort, -1, text), fault == 0 ? 0 : -1);
        due("fault(0) of " + shown, x.fault(0), fault);
        due("fault(1) of " + shown, x.fault(1), place);
        due("count of " + shown, x.count(sort), fault == 0 ? 1 : 0);
    }

    static String again(String text, int times) {
        return text.repeat(times);
    }

    /** Facts (or people, hours) as bits. */
    static int set(int... ones) {
        int bits = 0;
        for (int one : ones) {
            bits |= 1 << one;
        }
        return bits;
    }
}
