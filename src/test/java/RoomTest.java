import com.sun.management.ThreadMXBean;
import java.lang.management.ManagementFactory;

/** What an object takes when it is made, and what 512 calls take: the dearest ones, over and over. */
public final class RoomTest {
    private static final long MOST_FOR_ONE = 2_000_000, MOST_FOR_CALLS = 100_000;
    private static final ThreadMXBean THREADS = (ThreadMXBean) ManagementFactory.getThreadMXBean();
    private static int wrong = 0;

    public static void main(String[] args) {
        CardTables first = new CardTables();
        use(first);
        long before = taken();
        CardTables x = new CardTables();
        long made = taken();
        use(x);
        long used = taken();
        atMost("a new object", made - before, MOST_FOR_ONE);
        atMost("its 512 calls", used - made, MOST_FOR_CALLS);
        if (wrong != 0) {
            System.exit(1);
        }
    }

    private static long taken() {
        return THREADS.getCurrentThreadAllocatedBytes();
    }

    private static void atMost(String what, long bytes, long most) {
        System.out.println(what + ": " + bytes + " bytes, " + most + " at most");
        wrong += bytes > most ? 1 : 0;
    }

    private static void use(CardTables x) {
        x.game(0, 3, 0, 0);
        x.game(1, 4, 0, 0);
        for (int t = 0; t < 4; t++) {
            x.table(t, 16, t & 1);
        }
        int calls = 6;
        for (int n = 0; calls < 500; n++) {
            int t = n & 3;
            x.game(2, n & 3, 0, 0);
            x.deal(t, n, -1);
            x.best(t, 0);
            x.check(t, 1);
            x.line(t, 0, 15);
            x.claim(t, 1, 4);
            x.replay(t);
            x.revoke(t, x.turn(t), 0);
            x.allowed(t, 1, 0);
            x.undo(t);
            x.digest(t);
            x.status(t, 3);
            calls += 13;
        }
    }
}
