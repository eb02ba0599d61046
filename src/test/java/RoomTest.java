import com.sun.management.ThreadMXBean;
import java.lang.management.ManagementFactory;

/** No call but the constructor makes an object, so a run of dear calls fits into the room. */
public final class RoomTest {
    private static final int BYTES_OF_ONE = 64 * 1024;
    private static final int SLACK = 4 * 1024;
    private static final Check CHECK = new Check("RoomTest");

    public static void main(String[] args) {
        ThreadMXBean threads = (ThreadMXBean) ManagementFactory.getThreadMXBean();
        run(new NearPhrases());
        long before = threads.getCurrentThreadAllocatedBytes();
        NearPhrases x = new NearPhrases();
        long made = threads.getCurrentThreadAllocatedBytes();
        run(x);
        long after = threads.getCurrentThreadAllocatedBytes();
        CHECK.holds("a new object takes " + (made - before) + " bytes, at most " + BYTES_OF_ONE,
                made - before <= BYTES_OF_ONE);
        CHECK.holds("the calls take " + (after - made) + " bytes, at most " + SLACK, after - made <= SLACK);
        CHECK.end();
    }

    /** Twelve of many letters and signs and a question, then every kind of call, 512 in all at most. */
    private static long run(NearPhrases x) {
        long sum = 0;
        for (int i = 0; i < 12; i++) {
            for (int k = 0; k < 15; k++) {
                sum += x.letter(k % 2 == 1 ? ' ' : 'a' + (i + k) % 26);
            }
            sum += x.keep();
        }
        sum += x.letter('a') + x.letter('b') + x.fault() + x.ask();
        for (int k = 0; k < 16; k++) {
            sum += x.weight(1 + k) + x.bound(50 * k) + x.digest() + x.near(k % 12, k % 10) + x.step(k % 12, k, 0);
            sum += x.rank(k) + x.question(k % 10) + x.covered(0) + x.two(0, k % 12, 4) + x.alike(0, 0, k % 12, 0);
            sum += x.segment(k % 12, k % 6) + x.sign(k % 12, 0, k % 14) + x.gram('^', 'a' + k) + x.count(k % 8);
        }
        sum += x.drop(0) + x.letter('q') + x.keep() + x.letter('q') + x.blank();
        return sum;
    }
}
