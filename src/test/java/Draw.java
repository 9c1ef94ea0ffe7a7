import java.util.ArrayList;
import java.util.Collections;
import java.util.List;
import java.util.Random;

/** Towns, days and texts with faults, drawn by a seed. */
final class Draw {
    final Random random;

    Draw(long seed) {
        random = new Random(seed);
    }

    int below(int n) {
        return random.nextInt(n);
    }

    boolean once(int in) {
        return below(in) == 0;
    }

    private String facts(int facts, int least, int most) {
        List<Integer> all = new ArrayList<>();
        for (int fact = 0; fact < facts; fact++) {
            all.add(fact);
        }
        Collections.shuffle(all, random);
        StringBuilder row = new StringBuilder();
        int many = Math.min(facts, least + below(most - least + 1));
        for (int i = 0; i < many; i++) {
            row.append(' ').append(all.get(i));
        }
        return row.toString();
    }

    private String hours() {
        StringBuilder row = new StringBuilder();
        for (int i = 1 + below(5); i > 0; i--) {
            row.append(' ').append(1 + below(9));
        }
        return row.toString();
    }

    String town() {
        int facts = once(12) ? 1 + below(4) : 4 + below(7);
        int people = once(12) ? 0 : 1 + below(5);
        List<String> lines = new ArrayList<>();
        for (int i = once(6) ? 0 : 2 + below(once(3) ? 15 : 7); i > 0 && facts > 1; i--) {
            lines.add("rule" + facts(facts, 2, once(3) ? 4 : 3) + ";");
        }
        for (int p = 0; p < people && !once(6); p++) {
            lines.add("knows " + p + facts(facts, 1, once(3) ? facts : 3) + ";");
        }
        for (int p = 0; p < people && !once(8); p++) {
            lines.add("out " + p + hours() + ";");
        }
        for (int i = below(once(4) ? 13 : 6); i > 0; i--) {
            lines.add("sign " + (1 + below(9)) + " " + below(facts) + ";");
        }
        for (int i = below(once(6) ? 11 : 7); i > 0 && people > 1; i--) {
            int who = below(people);
            int whom = (who + 1 + below(people - 1)) % people;
            lines.add("meet " + who + " " + whom + " " + (1 + below(9)) + " " + below(facts) + ";");
        }
        for (int i = below(7); i > 0; i--) {
            lines.add("skill " + below(once(2) ? 100 : 4) + facts(facts, 1, 3) + ";");
        }
        for (int i = below(7); i > 0; i--) {
            lines.add("hurt " + below(once(2) ? 100 : 4) + facts(facts, 1, 3) + ";");
        }
        lines.add("price " + below(100) + ";");
        Collections.shuffle(lines, random);
        lines.add(0, "facts " + facts + ";");
        for (int p = 0; p < people; p++) {
            lines.add(1, "one " + (once(4) ? 0 : below(100)) + ";");
        }
        while (String.join("", lines).length() > 600) {
            lines.remove(lines.size() - 1);
        }
        return String.join("", lines);
    }

    String day(int facts, int people) {
        String[] words = {"whole", "least", "late", "half", "learn", "ask", "hour"};
        StringBuilder text = new StringBuilder();
        for (int i = below(once(4) ? 31 : 10); i > 0; i--) {
            int kind = once(4) ? 6 : below(7);
            int one = below(once(30) ? 5 : Math.max(1, people));
            int fact = below(once(30) ? 10 : facts);
            text.append(words[kind]);
            if (kind < 6) {
                text.append(' ').append(one);
            }
            if (kind == 5) {
                text.append(' ').append((one + 1 + below(people > 1 ? people - 1 : 4)) % 5);
            }
            if (kind < 6) {
                text.append(' ').append(fact);
            }
            text.append(once(5) ? " ;\n" : ";");
        }
        return text.toString();
    }

    /** A text with some of its signs changed. */
    String spoilt(String text) {
        StringBuilder signs = new StringBuilder(text);
        String some = "0123456789 \n;abefhiklnoprstuwx\t\r\0A\u0080\u00ff";
        for (int i = below(4); i >= 0 && signs.length() > 0; i--) {
            int at = below(signs.length());
            int how = below(3);
            if (how == 0) {
                signs.deleteCharAt(at);
            } else if (how == 1) {
                signs.setCharAt(at, some.charAt(below(some.length())));
            } else {
                signs.insert(at, some.charAt(below(once(2) ? 13 : some.length())));
            }
        }
        return signs.length() > 600 ? signs.substring(0, 600) : signs.toString();
    }

    /** Mostly a number below n, at times any. */
    int about(int n) {
        if (once(25)) {
            int[] odd = {-1, -2, n, n + 1, Integer.MAX_VALUE, Integer.MIN_VALUE, 32, 1 << 10, -100000};
            return odd[below(odd.length)];
        }
        return below(Math.max(1, n));
    }

    int set(int facts) {
        if (once(25)) {
            return about(1 << facts);
        }
        int set = below(1 << facts);
        return once(2) ? set : set & below(1 << facts);
    }
}
