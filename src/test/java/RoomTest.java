import com.sun.management.ThreadMXBean;
import java.lang.management.ManagementFactory;

/** The room: what an object takes when it is made, and what the 512 calls of a run take, the dearest too. */
public final class RoomTest {
    /** 7.3 million fields and elements, at 4 bytes each. */
    private static final long MOST_BYTES = 4L * 7_300_000;
    private static final int CALLS = 512;

    private RoomTest() {
    }

    public static void main(String[] args) {
        ThreadMXBean counter = (ThreadMXBean) ManagementFactory.getThreadMXBean();
        long thread = Thread.currentThread().getId();
        ForgetBread first = new ForgetBread();
        ask(first, tell(first));
        for (int kind = 0; kind < 13; kind++) {
            int calls = 0;
            ForgetBread x = new ForgetBread();
            int told = tell(x);
            long start = counter.getThreadAllocatedBytes(thread);
            int sum = 0;
            for (calls = told; calls < CALLS; calls++) {
                sum += askOne(x, kind, calls);
            }
            long taken = counter.getThreadAllocatedBytes(thread) - start;
            Kit.due("calls of kind " + kind + " take " + taken + " (" + sum + ")", taken < MOST_BYTES, true);
        }
        long before = counter.getThreadAllocatedBytes(thread);
        ForgetBread x = new ForgetBread();
        long made = counter.getThreadAllocatedBytes(thread) - before;
        before = counter.getThreadAllocatedBytes(thread);
        int told = tell(x);
        int sum = ask(x, told);
        long taken = counter.getThreadAllocatedBytes(thread) - before;
        Kit.due("all kinds take " + taken + " (" + sum + ")", taken + made < MOST_BYTES, true);
        Kit.close();
    }

    /** How many calls it took. */
    private static int tell(ForgetBread x) {
        String facts = "facts 10;rule 0 1 2 3;rule 4 5 6;rule 9 8 7;";
        StringBuilder town = new StringBuilder(facts + "one 90;one 80;one 70;one 60;one 50;");
        for (int p = 0; p < 5; p++) {
            town.append("knows ").append(p).append(" 1 2 3 5 6 7 8;");
        }
        town.append("out 0 1 2 3 4 5 6 7 8 9;sign 9 0;");
        for (int meet = 0; meet < 12; meet++) {
            town.append("meet ").append(1 + meet % 4).append(" 0 ").append(1 + meet % 9).append(" 4;");
        }
        town.append("skill 9 1 2;hurt 9 3 4;hurt 9 5 6;");
        String day = "least 0 0;half 0 9;whole 1 4;late 2 4;hour;hour;least 3 9;";
        Kit.due("town", Kit.text(x, 0, -1, town.toString()), 0);
        Kit.due("day", Kit.text(x, 1, -1, day), 0);
        return 6 + (town.length() + 19) / 20 + (day.length() + 19) / 20;
    }

    private static int ask(ForgetBread x, int told) {
        int sum = 0;
        for (int calls = told; calls < CALLS; calls++) {
            sum += askOne(x, calls % 13, calls / 13);
        }
        return sum;
    }

    private static int askOne(ForgetBread x, int kind, int number) {
        int n = number % 8;
        int fact = number / 8 % 10;
        switch (kind) {
            case 0: return x.row(0, 0, n, 0, 1023 & ~(1 << fact), 0, 0);
            case 1: return x.safe(0, 0, n, 0, fact, 0);
            case 2: return x.stay(0, 0, n, 0, fact);
            case 3: return x.shut(0, 0, n, 0, fact);
            case 4: return x.pact(0, 0, n, 0, fact);
            case 5: return x.order(0, 0, n, 0, 31 << fact / 2, fact % 3, 0);
            case 6: return x.ways(0, 0, n, 0, fact);
            case 7: return x.note(0, 0, n, 0, fact, 9) + fact;
            case 8: return x.best(0, 0, n, 0, 3, 1);
            case 9: return x.gap(0, 0, n, 0, 3);
            case 10: return x.guess(0, 0, n, 0, 0, 1, 1);
            case 11: return x.roots(0, 0, n, 0, 0);
            default: return (n % 2 == 0 ? x.image(n % 3) : x.back(n % 3)) ? 1 : 0;
        }
    }
}
