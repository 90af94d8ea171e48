import com.sun.management.ThreadMXBean;
import java.lang.management.ManagementFactory;

/** The room: an object is small, and no call makes anything (but the exception of sooner). */
public final class RoomTest {
    private static final String TEXT = "person p born 1900 1 1;deposit d 1900 1 1;piece a 1900 1 1 of p from d;"
        + "piece b in a 1900 1 1;close content a 20 whole;close person p 30 40 50;close deposit d 20;"
        + "close until b 2000 1 1;";

    public static void main(String[] args) {
        ThreadMXBean threads = (ThreadMXBean) ManagementFactory.getThreadMXBean();
        long self = Thread.currentThread().getId();
        byte[] bytes = TEXT.getBytes();
        int[] words = new int[(bytes.length + 19) / 20 * 5];
        for (int i = 0; i < words.length * 4; i++) {
            words[i / 4] = words[i / 4] << 8 | (i < bytes.length ? bytes[i] : 0);
        }
        long made = 0;
        long called = 0;
        long sum = 0;
        // The first times load classes; the last is what counts.
        for (int time = 0; time < 5; time++) {
            long start = threads.getThreadAllocatedBytes(self);
            ClosedUntil x = new ClosedUntil();
            long middle = threads.getThreadAllocatedBytes(self);
            sum += callAll(x, words, bytes.length);
            long end = threads.getThreadAllocatedBytes(self);
            made = middle - start;
            called = end - middle;
        }
        Checks checks = new Checks();
        checks.due("an object takes at most 24,000 bytes, here " + made, made <= 24000, true);
        checks.due("bytes made by calls", called, 0);
        checks.due("the calls were made", sum != 0, true);
        checks.finish();
    }

    private static long callAll(ClosedUntil x, int[] words, int length) {
        long sum = 0;
        for (int round = 0; round < 5; round++) {
            for (int i = 0; i + 4 < words.length; i += 5) {
                sum += x.feed(words[i], words[i + 1], words[i + 2], words[i + 3], words[i + 4]);
            }
            sum += x.text(length - round % 2);
            sum += x.text(0) + x.text(1);
            for (int i = 0; i + 4 < words.length; i += 5) {
                sum += x.feed(words[i], words[i + 1], words[i + 2], words[i + 3], words[i + 4]);
            }
            sum += x.text(length);
            sum += x.day(2000, 1, 1) + x.date(9, 3) + x.plus(9, 9) + x.piece(0, 4) + x.person(0, 2) + x.closure(0, 6);
            sum += x.review(0, 9, 9) + x.lift(1, 9) + x.died(0, -1) + x.put(1, -1) + x.undo();
            sum += x.term(0, 0) + x.ends(0, 1) + x.opens(1, 0) + x.allOf(0, 0) + x.reason(1, 0) + x.closedBy(1, 0);
            sum += x.sooner(0, 0, 0) + x.open(0, 0) + x.next(-1, 0) + x.listed(1, 0) + x.mustGo(0, 0, 0);
            sum += x.best(0, 0, 3) + x.openWithout(0, 0, 3) + x.count(4);
            sum += x.keep(0, false) ? 1 : 0;
            sum += x.keep(0, true) ? 1 : 0;
        }
        return sum;
    }
}
