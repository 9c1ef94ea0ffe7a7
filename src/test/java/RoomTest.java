import com.sun.management.ThreadMXBean;
import java.lang.management.ManagementFactory;

/** The room: what an object takes when it is made, and that its calls, the dearest too, take nothing more. */
public final class RoomTest {
    /** A seventh of the room of one run, at 4 bytes each. */
    private static final long MOST_BYTES = 4L * 1_000_000;

    private RoomTest() {
    }

    public static void main(String[] args) {
        ThreadMXBean counter = (ThreadMXBean) ManagementFactory.getThreadMXBean();
        long thread = Thread.currentThread().getId();
        new ForgetBread();
        counter.getThreadAllocatedBytes(thread);
        long start = counter.getThreadAllocatedBytes(thread);
        ForgetBread x = new ForgetBread();
        long made = counter.getThreadAllocatedBytes(thread) - start;
        Kit.due("an object takes " + made, made < MOST_BYTES, true);
        ask(x);
        tell(x);
        ask(x);
        long before = counter.getThreadAllocatedBytes(thread);
        int sum = ask(x);
        long taken = counter.getThreadAllocatedBytes(thread) - before;
        Kit.due("calls take " + taken + " (" + sum + ")", taken < 4096, true);
        Kit.close();
    }

    private static void tell(ForgetBread x) {
        String facts = "facts 10;rule 0 1 2 3;rule 4 5 6;rule 9 8 7;";
        StringBuilder town = new StringBuilder(facts + "one 90;one 80;one 70;one 60;one 50;");
        for (int p = 0; p < 5; p++) {
            town.append("knows ").append(p).append(" 1 2 3 5 6 7 8;");
        }
        town.append("out 0 1 2 3 4 5 6 7 8 9;sign 9 0;");
        for (int meet = 0; meet < 12; meet++) {
            town.append("meet ").append(1 + meet % 4).append(" 0 ").append(1 + meet % 9).append(" 4;");
        }
        town.append("skill 9 1 2;hurt 9 3 4;hurt 9 5 6;");
        Kit.due("town", Kit.text(x, 0, -1, town.toString()), 0);
        Kit.due("day", Kit.text(x, 1, -1, "least 0 0;half 0 9;whole 1 4;late 2 4;hour;hour;least 3 9;"), 0);
    }

    private static int ask(ForgetBread x) {
        int sum = 0;
        for (int n = 0; n < 8; n++) {
            for (int fact = 0; fact < 10; fact++) {
                sum += x.row(0, 0, n, 0, 1023 & ~(1 << fact), 0, 0) + x.safe(0, 0, n, 0, fact, 0);
                sum += x.stay(0, 0, n, 0, fact) + x.shut(0, 0, n, 0, fact) + x.pact(0, 0, n, 0, fact);
                sum += x.order(0, 0, n, 0, 31 << fact / 2, fact % 3, 0) + x.ways(0, 0, n, 0, fact);
                sum += x.note(0, 0, n, 0, fact, 9) + x.ask(0, 0, n, 0, fact, true);
            }
            sum += x.best(0, 0, n, 0, 3, 1) + x.gap(0, 0, n, 0, 3) + x.days(0, 0, n, n, 0);
            sum += x.guess(0, 0, n, 0, 0, 1, 1) + x.roots(0, 0, n, 0, 0) + x.teach(0, 0, n, 0, 1);
            sum += (x.image(n % 3) ? 1 : 0) + (x.back(n % 3) ? 1 : 0);
        }
        return sum;
    }
}
