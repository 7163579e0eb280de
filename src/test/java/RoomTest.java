import com.sun.management.ThreadMXBean;
import java.lang.management.ManagementFactory;

/** All calls of a run live in one room: an object is small, and its 512 calls, the dearest too, add next to nothing. */
public final class RoomTest {
    private static final int CALLS = 512;
    private static final long MOST_BYTES = 40000;

    private static final String[] LONGEST = {
        "r6h4f9w9m9q", "7*60,7*60,7*60,7*60,7*60,7*60", "99h,99,99,99h,99,99,99h,99,99,99",
    };

    /** Uses an object up, with every call that makes something: at the limits, and far beyond them. */
    private static int use(LeavesInCups x, long[][] words) {
        int calls = 0;
        int sum = 0;
        while (calls + 32 < CALLS) {
            for (long[] text : words) {
                for (long word : text) {
                    sum += x.letters(word);
                    calls++;
                }
                sum += x.fault(0) + x.fault(1) + x.fault(2) + x.cup() + x.row() + x.river() + x.blank();
                calls += 7;
            }
            sum += x.doing(1, 20) + x.leaf(5, 9, 9) + x.picture(99, -99) + x.found(2) + x.image() + x.restore();
            sum += x.saves(99, 9, 1) + (int) x.digest() + x.line(0, 5, 9);
            calls += 9;
        }
        while (calls < CALLS) {
            sum += (int) x.digest();
            calls++;
        }
        return sum;
    }

    private static long[] words(String text) {
        long[] words = new long[(text.length() + 7) / 8];
        for (int i = 0; i < words.length; i++) {
            words[i] = Made.word(text.substring(8 * i, Math.min(text.length(), 8 * i + 8)));
        }
        return words;
    }

    public static void main(String[] args) {
        Due due = new Due();
        long[][] words = {words(LONGEST[0]), words(LONGEST[1]), words(LONGEST[2])};
        ThreadMXBean threads = (ThreadMXBean) ManagementFactory.getThreadMXBean();
        int first = use(new LeavesInCups(), words);
        long ahead = threads.getCurrentThreadAllocatedBytes();
        int second = use(new LeavesInCups(), words);
        long bytes = threads.getCurrentThreadAllocatedBytes() - ahead;
        due.is("the same calls answer the same", second, first);
        due.isTrue("an object and its calls take " + bytes + " bytes", bytes > 0 && bytes < MOST_BYTES);
        due.end();
    }
}
