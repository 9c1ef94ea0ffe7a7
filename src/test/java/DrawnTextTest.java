import java.nio.charset.StandardCharsets;
import java.util.List;

/** Drawn texts, most of them with faults, and what the towns and days hold that are told by them. */
public final class DrawnTextTest {
    private DrawnTextTest() {
    }

    public static void main(String[] args) {
        int runs = args.length > 0 ? Integer.parseInt(args[0]) : 4000;
        for (int seed = 0; seed < runs && !Kit.failed(); seed++) {
            Draw draw = new Draw(seed);
            int sort = draw.below(2);
            String text = sort == 0 ? draw.town() : draw.day(10, 5);
            text = text.length() > 600 ? text.substring(0, 600) : text;
            test(sort, draw.once(4) ? text : draw.spoilt(text));
        }
        Kit.close();
    }

    private static void test(int sort, String text) {
        ForgetBread x = new ForgetBread();
        ModelText read = new ModelText(sort, text);
        String shown = " of '" + text + "'";
        Kit.feed(x, text.getBytes(StandardCharsets.ISO_8859_1));
        Kit.due("text" + shown, x.text(sort, -1), read.fault == 0 ? 0 : -1);
        Kit.due("fault" + shown, x.fault(0), read.fault);
        Kit.due("place" + shown, x.fault(1), read.place);
        Kit.due("tape" + shown, x.end(1), -1);
        Kit.due("count" + shown, x.count(sort), read.fault == 0 ? 1 : 0);
        if (read.fault != 0) {
            return;
        }
        if (sort == 1) {
            Kit.due("acts" + shown, x.act(0, -1, 0), read.acts.size());
            for (int i = 0; i < 32; i++) {
                for (int what = -1; what < 5; what++) {
                    boolean is = i < read.acts.size() && what >= 0 && what < 4;
                    Kit.due("act " + i + shown, x.act(0, i, what), is ? read.acts.get(i)[what] : -2);
                }
            }
            return;
        }
        Model.Town town = read.town;
        int[] sizes = {town.facts, town.rules.size(), town.people.size(), town.signs.size(), town.meets.size(),
            town.skills.size(), town.hurts.size(), town.price};
        for (int what = 0; what < sizes.length; what++) {
            Kit.due("town " + what + shown, x.town(0, what), sizes[what]);
        }
        int used = 0;
        for (int[] rule : town.rules) {
            used |= rule[1] | 1 << rule[0];
        }
        Kit.due("lonely" + shown, x.town(0, 8), (1 << town.facts) - 1 & ~used);
        List<List<int[]>> lists = List.of(town.rules, town.people, town.signs, town.meets, town.skills, town.hurts);
        for (int list = 0; list < lists.size(); list++) {
            for (int i = 0; i <= lists.get(list).size(); i++) {
                for (int what = -1; what < 5; what++) {
                    boolean is = i < lists.get(list).size() && what >= 0 && what < lists.get(list).get(i).length;
                    Kit.due("list " + list + shown, cell(x, list, i, what), is ? lists.get(list).get(i)[what] : -1);
                }
            }
        }
    }

    private static int cell(ForgetBread x, int list, int i, int what) {
        switch (list) {
            case 0: return x.rule(0, i, what);
            case 1: return x.person(0, i, what);
            case 2: return x.sign(0, i, what);
            case 3: return x.meet(0, i, what);
            default: return x.skill(0, i, list == 5, what);
        }
    }
}
