import java.lang.reflect.Method;
import java.util.ArrayList;
import java.util.Comparator;
import java.util.List;

/** Any numbers for any call in any state: nothing throws, and the same calls give the same answers. */
public final class AnyIntTest {
    private static final int[] EDGES = {-1, -2, 0, 1, 2, 3, 4, 5, 9, 10, 11, 12, 16, 20, 21, 30, 31, 32, 33, 63, 64,
        599, 600, 601, 1023, 1024, -100000, Integer.MAX_VALUE, Integer.MIN_VALUE, Integer.MAX_VALUE - 9};

    private AnyIntTest() {
    }

    public static void main(String[] args) throws ReflectiveOperationException {
        List<Method> methods = new ArrayList<>();
        for (Method method : ForgetBread.class.getDeclaredMethods()) {
            if (java.lang.reflect.Modifier.isPublic(method.getModifiers())) {
                methods.add(method);
            }
        }
        methods.sort(Comparator.comparing(Method::getName));
        for (int seed = 0; seed < 120; seed++) {
            run(methods, seed);
        }
        Kit.close();
    }

    private static void run(List<Method> methods, int seed) throws ReflectiveOperationException {
        Draw draw = new Draw(seed);
        ForgetBread x = new ForgetBread();
        ForgetBread same = new ForgetBread();
        int texts = draw.below(6);
        for (int i = 0; i < texts; i++) {
            int sort = draw.below(2);
            String text = sort == 0 ? draw.town() : draw.day(8, 4);
            text = text.substring(0, Math.min(600, text.length()));
            text = draw.once(5) ? draw.spoilt(text) : text;
            Kit.due("text", Kit.text(x, sort, -1, text), Kit.text(same, sort, -1, text));
        }
        for (int i = 0; i < 330; i++) {
            Method method = methods.get(draw.below(methods.size()));
            Object[] with = new Object[method.getParameterCount()];
            boolean near = draw.once(2);
            for (int k = 0; k < with.length; k++) {
                boolean flag = method.getParameterTypes()[k] == boolean.class;
                with[k] = flag ? (Object) draw.once(2) : (Object) number(draw, k, near);
            }
            Object answer = method.invoke(x, with);
            Object again = method.invoke(same, with);
            Kit.due(method.getName(), answer.equals(again), true);
        }
    }

    private static int number(Draw draw, int place, boolean near) {
        if (near) {
            return place == 0 ? 0 : place == 1 ? draw.below(3) - 1 : draw.below(4);
        }
        int how = draw.below(3);
        return how == 0 ? draw.random.nextInt() : how == 1 ? EDGES[draw.below(EDGES.length)] : draw.below(12) - 2;
    }
}
