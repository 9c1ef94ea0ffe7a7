import java.lang.reflect.Method;
import java.util.ArrayList;
import java.util.Comparator;
import java.util.List;

/** Any numbers for any call in any state: nothing throws, and the same calls give the same answers. */
public final class AnyIntTest {
    private static final int[] EDGES = {-1, -2, 0, 1, 2, 3, 4, 5, 9, 10, 11, 12, 16, 20, 21, 30, 31, 32, 33, 63, 64,
        599, 600, 601, 1023, 1024, -100000, Integer.MAX_VALUE, Integer.MIN_VALUE, Integer.MAX_VALUE - 9};
    /** An object is used for 512 calls at most: these, and those by which it is told of two towns and three days. */
    private static final int MOST_CALLS = 350;

    private AnyIntTest() {
    }

    public static void main(String[] args) throws ReflectiveOperationException {
        List<Method> methods = new ArrayList<>();
        for (Method method : ForgetBread.class.getDeclaredMethods()) {
            if (java.lang.reflect.Modifier.isPublic(method.getModifiers())) {
                methods.add(method);
            }
        }
        methods.sort(Comparator.comparing(Method::getName));
        for (int seed = 0; seed < 120; seed++) {
            run(methods, seed);
        }
        for (Method method : methods) {
            for (int state = 0; state < 4; state++) {
                edges(method, state);
            }
        }
        Kit.close();
    }

    private static void run(List<Method> methods, int seed) throws ReflectiveOperationException {
        Draw draw = new Draw(seed);
        ForgetBread x = new ForgetBread();
        ForgetBread same = new ForgetBread();
        int texts = draw.below(5);
        for (int i = 0; i < texts; i++) {
            int sort = draw.below(2);
            String text = sort == 0 ? draw.town() : draw.day(8, 4);
            text = text.substring(0, Math.min(600, text.length()));
            text = draw.once(5) ? draw.spoilt(text) : text;
            Kit.due("text", Kit.text(x, sort, -1, text), Kit.text(same, sort, -1, text));
        }
        for (int i = 0; i < MOST_CALLS; i++) {
            Method method = methods.get(draw.below(methods.size()));
            Object[] with = new Object[method.getParameterCount()];
            boolean near = draw.once(2);
            for (int k = 0; k < with.length; k++) {
                boolean flag = method.getParameterTypes()[k] == boolean.class;
                with[k] = flag ? (Object) draw.once(2) : (Object) number(draw, k, near);
            }
            Object answer = method.invoke(x, with);
            Object again = method.invoke(same, with);
            Kit.due(method.getName(), answer.equals(again), true);
        }
    }

    private static int number(Draw draw, int place, boolean near) {
        if (near) {
            return place == 0 ? 0 : place == 1 ? draw.below(3) - 1 : draw.below(4);
        }
        int how = draw.below(3);
        return how == 0 ? draw.random.nextInt() : how == 1 ? EDGES[draw.below(EDGES.length)] : draw.below(12) - 2;
    }

    /** An object without anything, one with all there may be, one with a full tape, one whose latest text had a fault. */
    private static ForgetBread made(int state) {
        ForgetBread x = new ForgetBread();
        if (state == 0) {
            return x;
        }
        String each = "knows # 0 1 2;out # 3 9;";
        String town = "facts 10;rule 9 0 1;rule 8 9;sign 9 5;sign 3 4;skill 9 9;hurt 9 8;price 99;";
        Kit.due("a town", Kit.text(x, 0, -1, Edge.alike(5, town, each) + "meet 0 1 9 0;meet 1 0 9 7;"), 0);
        Kit.due("a day", Kit.text(x, 1, -1, "half 0 8;hour;learn 1 7;late 2 9;" + "hour;".repeat(26)), 0);
        if (state == 1) {
            Kit.due("a second town", Kit.text(x, 0, -1, "facts 1;"), 1);
            Kit.due("a second day", Kit.text(x, 1, -1, ""), 1);
            Kit.due("a third day", Kit.text(x, 1, -1, "hour;"), 2);
            Kit.due("an image", x.image(0), true);
            Kit.due("an image", x.image(1), true);
            Kit.due("an image", x.image(2), true);
        } else if (state == 2) {
            Kit.feed(x, "x".repeat(600));
        } else {
            Kit.due("a fault", Kit.text(x, 0, 0, "facts 0;"), -1);
        }
        return x;
    }

    /** In each place of a call each edge, all others being such as there are; and in all places the same. */
    private static void edges(Method method, int state) throws ReflectiveOperationException {
        ForgetBread x = made(state);
        int calls = 0;
        int places = method.getParameterCount();
        for (int place = 0; place <= places; place++) {
            for (int edge : EDGES) {
                Object[] with = new Object[places];
                for (int k = 0; k < places; k++) {
                    boolean flag = method.getParameterTypes()[k] == boolean.class;
                    int number = k == place || place == places ? edge : k == 1 ? 0 : k == 2 ? 3 : k == 0 ? 0 : 1;
                    with[k] = flag ? (Object) (edge % 2 == 0) : (Object) number;
                }
                if (calls == MOST_CALLS) {
                    x = made(state);
                    calls = 0;
                }
                Kit.due(method.getName() + " answers", method.invoke(x, with) != null, true);
                calls++;
            }
        }
    }
}
