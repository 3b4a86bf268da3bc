import com.sun.management.ThreadMXBean;
import java.lang.management.ManagementFactory;
import java.lang.reflect.Field;
import java.lang.reflect.Modifier;

/** All calls of a run live in one room: what an object and its 512 calls take of it, and what the classes hold. */
public final class RoomTest {
    private static final ThreadMXBean ROOM = (ThreadMXBean) ManagementFactory.getThreadMXBean();
    private static final int MOST_BYTES = 120_000;

    public static void main(String[] args) {
        // The first runs make what the machine itself needs.
        for (int i = 0; i < 3; i++) {
            taken();
        }
        long bytes = taken();
        Check.same("an object and 512 calls take " + bytes + " bytes, not more than " + MOST_BYTES, bytes <= MOST_BYTES ? 1 : 0, 1);
        fields(HiredEnemy.class);
        for (Class<?> inside : HiredEnemy.class.getDeclaredClasses()) {
            fields(inside);
        }
        Check.end("RoomTest");
    }

    private static long taken() {
        long before = ROOM.getCurrentThreadAllocatedBytes();
        HiredEnemy x = new HiredEnemy();
        tell(x, "wall 9 1;wall 5 2;wall 9 0;town 9999 90;");
        x.siege(40);
        for (int i = 0; i < 6; i++) {
            tell(x, "pay 3;near 3;corks 9;breach 1 2;         ");
            x.contract(40);
        }
        int calls = 22;
        while (calls < 512) {
            calls += round(x, calls);
        }
        return ROOM.getCurrentThreadAllocatedBytes() - before;
    }

    private static void tell(HiredEnemy x, String text) {
        for (int from = 0; from < 40; from += 20) {
            x.feed(four(text, from), four(text, from + 4), four(text, from + 8), four(text, from + 12), four(text, from + 16));
        }
    }

    private static int four(String text, int at) {
        return text.charAt(at) << 24 | text.charAt(at + 1) << 16 | text.charAt(at + 2) << 8 | text.charAt(at + 3);
    }

    private static int round(HiredEnemy x, int calls) {
        x.sign(calls % 6);
        x.months(9);
        x.would(1, 60, 0);
        x.best(60, 0);
        x.stop(30, 0);
        x.image();
        x.seen(calls % 4);
        x.earnest(6, 6, 0);
        x.show(6, 6);
        x.offers(1, calls % 12, calls);
        x.serves(11);
        x.undo(5);
        x.restore();
        x.image();
        if (calls % 8 == 0) {
            x.offer(9, 3);
        }
        return 15;
    }

    private static void fields(Class<?> of) {
        int held = 0;
        for (Field f : of.getDeclaredFields()) {
            if (Modifier.isStatic(f.getModifiers())) {
                Check.same("final: " + f, Modifier.isFinal(f.getModifiers()) ? 1 : 0, 1);
            } else {
                held++;
            }
        }
        Check.same("fields of " + of + ": " + held, held <= 20 ? 1 : 0, 1);
    }
}
