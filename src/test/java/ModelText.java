import java.util.ArrayList;
import java.util.HashSet;
import java.util.List;
import java.util.Map;
import java.util.Set;
import java.util.regex.Matcher;
import java.util.regex.Pattern;

/** Texts read once more: tokens first, then lines by patterns of the whole row of tokens. */
final class ModelText {
    private static final Pattern TOKEN = Pattern.compile("[a-z]+|[0-9]+|;|[\n ]+|[\\x00-\\xff]");
    private static final Map<String, String> TOWN = Map.of("facts", "N;", "rule", "NNN*;", "one", "N;", "knows",
            "NNN*;", "out", "NNN*;", "sign", "NN;", "meet", "NNNN;", "skill", "NNN*;", "hurt", "NNN*;", "price",
            "N;");
    private static final List<String> ACTS = List.of("whole", "least", "late", "half", "learn", "ask", "hour");
    private static final Map<String, Integer> MOST = Map.of("rule", 16, "one", 5, "sign", 12, "meet", 12,
            "skill", 6, "hurt", 6);

    int fault = 0;
    int place = -1;
    final Model.Town town = new Model.Town();
    final List<int[]> acts = new ArrayList<>();

    private final int sort;
    private final List<String> tokens = new ArrayList<>();
    private final List<Integer> places = new ArrayList<>();
    private final int length;
    private final Set<Integer> told = new HashSet<>();

    ModelText(int sort, String text) {
        this.sort = sort;
        length = text.length();
        Matcher found = TOKEN.matcher(text);
        while (found.find()) {
            if (!found.group().matches("[\n ]+")) {
                tokens.add(found.group());
                places.add(found.start());
            }
        }
        int bad = badToken();
        if (bad >= 0) {
            fault = 1;
            place = bad < places.size() ? places.get(bad) : length;
            return;
        }
        lines();
        if (fault == 0 && sort == 0) {
            for (int fact : told) {
                if (fact >= town.facts) {
                    fault = 4;
                    place = length;
                }
            }
        }
    }

    private String patternOf(String word) {
        if (sort == 0) {
            return TOWN.get(word);
        }
        int act = ACTS.indexOf(word);
        return act < 0 ? null : act == 6 ? ";" : act == 5 ? "NNN;" : "NN;";
    }

    private static boolean isNumber(String token) {
        return token.matches("[0-9]{1,2}");
    }

    /** The number of the first token (or, of the end) with which no text goes on; -1: all is well. */
    private int badToken() {
        int at = 0;
        while (at < tokens.size()) {
            String pattern = patternOf(tokens.get(at));
            if (pattern == null) {
                return at;
            }
            at++;
            int step = 0;
            while (true) {
                String token = at < tokens.size() ? tokens.get(at) : "";
                boolean more = step + 1 < pattern.length() && pattern.charAt(step + 1) == '*';
                char want = pattern.charAt(step);
                if (want == 'N' && isNumber(token)) {
                    step += more ? 0 : 1;
                } else if (more && token.equals(";")) {
                    at++;
                    break;
                } else if (want == ';' && token.equals(";")) {
                    at++;
                    break;
                } else {
                    return at;
                }
                at++;
            }
        }
        return -1;
    }

    private void note(int found, int token) {
        if (fault == 0) {
            fault = found;
            place = places.get(token);
        }
    }

    private void lines() {
        int at = 0;
        while (at < tokens.size()) {
            int end = at;
            while (!tokens.get(end).equals(";")) {
                end++;
            }
            int[] numbers = new int[end - at - 1];
            for (int i = 0; i < numbers.length; i++) {
                numbers[i] = Integer.parseInt(tokens.get(at + 1 + i));
            }
            if (sort == 0) {
                townLine(tokens.get(at), at, numbers);
            } else {
                dayLine(tokens.get(at), at, numbers);
            }
            at = end + 1;
        }
    }

    private void dayLine(String word, int at, int[] numbers) {
        if (acts.size() == 30) {
            note(3, at);
        }
        int kind = ACTS.indexOf(word);
        for (int i = 0; i < numbers.length; i++) {
            boolean isFact = i == numbers.length - 1;
            if (numbers[i] > (isFact ? 9 : 4) || (kind == 5 && i == 1 && numbers[1] == numbers[0])) {
                note(2, at + 1 + i);
            }
        }
        int[] act = {kind, -1, -1, -1};
        System.arraycopy(numbers, 0, act, 1, numbers.length);
        acts.add(act);
    }

    private List<int[]> listOf(String word) {
        switch (word) {
            case "rule": return town.rules;
            case "one": return town.people;
            case "sign": return town.signs;
            case "meet": return town.meets;
            case "skill": return town.skills;
            case "hurt": return town.hurts;
            default: return null;
        }
    }

    private void townLine(String word, int at, int[] numbers) {
        List<int[]> list = listOf(word);
        if (list != null && list.size() == MOST.get(word)) {
            note(3, at);
        }
        Set<Integer> line = new HashSet<>();
        int bits = 0;
        for (int i = 0; i < numbers.length; i++) {
            int number = numbers[i];
            boolean wrong = false;
            boolean fact = isFact(word, i);
            if (word.equals("facts")) {
                wrong = number < 1 || number > 10;
            } else if (fact) {
                wrong = number > 9 || (!line.add(number) && !word.equals("knows"));
                told.add(number);
            } else if (isOne(word, i)) {
                wrong = number >= town.people.size() || (i == 1 && number == numbers[0]);
            } else if (isHour(word, i)) {
                wrong = number < 1 || number > 9;
            }
            if (wrong) {
                note(2, at + 1 + i);
            } else if (i == 4 && fact && !word.equals("knows")) {
                note(3, at + 1 + i);
            }
            bits |= i > 0 ? 1 << number : 0;
        }
        tell(word, list, numbers, bits);
    }

    private static boolean isFact(String word, int i) {
        switch (word) {
            case "rule": return true;
            case "knows": case "skill": case "hurt": return i > 0;
            case "sign": return i == 1;
            case "meet": return i == 3;
            default: return false;
        }
    }

    private static boolean isOne(String word, int i) {
        return i == 0 && (word.equals("knows") || word.equals("out")) || i < 2 && word.equals("meet");
    }

    private static boolean isHour(String word, int i) {
        return i > 0 && word.equals("out") || i == 0 && word.equals("sign") || i == 2 && word.equals("meet");
    }

    private void tell(String word, List<int[]> list, int[] numbers, int bits) {
        if (word.equals("facts")) {
            town.facts = numbers[0];
        } else if (word.equals("price")) {
            town.price = numbers[0];
        } else if (word.equals("one")) {
            list.add(new int[] {numbers[0], 0, 0});
        } else if (word.equals("knows") || word.equals("out")) {
            if (numbers[0] < town.people.size()) {
                town.people.get(numbers[0])[word.equals("knows") ? 1 : 2] |= bits;
            }
        } else if (word.equals("sign") || word.equals("meet")) {
            list.add(numbers);
        } else {
            list.add(new int[] {numbers[0], bits});
        }
    }
}
