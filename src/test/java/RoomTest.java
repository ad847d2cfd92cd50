import com.sun.management.ThreadMXBean;
import java.lang.management.ManagementFactory;

/** All calls of a run live in one room: only making an object takes some of it, a call takes none. */
public final class RoomTest {
    private static final ThreadMXBean THREADS = (ThreadMXBean) ManagementFactory.getThreadMXBean();
    /** Some 130 objects and 1,200 elements. */
    private static final long MOST_OF_AN_OBJECT = 20_000;
    /** What the measuring itself may take. */
    private static final long SLACK = 2_000;

    public static void main(String[] args) {
        Checks checks = new Checks("RoomTest");
        byte[][] messages = {
            Bytes.message(1, Bytes.sign(3, "a=r", "x")),
            Bytes.message(2, Bytes.add("b=1,a=r", Bytes.attribute("b", "1"), Bytes.attribute("d", "10", "20"))),
            Bytes.message(3, Bytes.modify("b=1,a=r", Bytes.change(0, "c", "1"), Bytes.change(2, "d", "30"))),
            Bytes.message(4, Bytes.search("", 2, 0, 0, Bytes.any(Bytes.not(Bytes.there("c")), Bytes.atLeast("d", "1")))),
            Bytes.message(5, Bytes.delete("b=1,a=r"))};
        long[] typed = new long[messages.length * 25];
        int[] counts = new int[messages.length * 25];
        for (int m = 0; m < messages.length; m++) {
            cut(messages[m], typed, counts, m * 25);
        }
        run(new DirectoryDesk(), typed, counts);

        long before = THREADS.getCurrentThreadAllocatedBytes();
        DirectoryDesk desk = new DirectoryDesk();
        long made = THREADS.getCurrentThreadAllocatedBytes();
        long sum = run(desk, typed, counts);
        long done = THREADS.getCurrentThreadAllocatedBytes();
        checks.same("the calls were carried out", sum, 5L * 14 + 34 + 49);
        checks.same("an object takes little: " + (made - before), made - before <= MOST_OF_AN_OBJECT, true);
        checks.same("calls take nothing: " + (done - made), done - made <= SLACK, true);
        checks.end();
    }

    private static void cut(byte[] message, long[] typed, int[] counts, int place) {
        for (int i = 0; i < message.length; i++) {
            int at = place + i / 8;
            typed[at] = typed[at] << 8 | message[i] & 255;
            counts[at]++;
        }
    }

    private static long run(DirectoryDesk desk, long[] typed, int[] counts) {
        long answered = 0;
        for (int m = 0; m < typed.length; m += 25) {
            for (int i = m; i < m + 25 && counts[i] > 0; i++) {
                desk.type(typed[i], counts[i]);
            }
            if (desk.handle() == 0) {
                answered += desk.answered();
            }
            for (int i = 0; i < desk.answered(); i += 7) {
                desk.answer(i);
            }
        }
        return answered;
    }
}
