import com.sun.management.ThreadMXBean;
import java.lang.management.ManagementFactory;

/** What the calls of the promises 1 to 15 take of the room in which a whole run lives. */
public final class RoomTest {
    // Some 400 small objects, each with a head of 12 or 16 bytes and two fields or elements.
    private static final long MOST_BYTES_OF_AN_OBJECT = 40_000;
    // The text that print() writes grows a few times, then it is used again; less than eight bytes a call.
    private static final long MOST_BYTES_OF_ALL_CALLS = 4_000;
    private static final int CALLS = 512;
    private static final String LONG_LINE =
            "-((((((((9999/9998*x-9997/9996)*1))))))) = x*9995/9994-9993/9992-0*9/8*7/6*5*x";

    public static void main(String[] args) {
        // Both are called once ahead, so that no class is loaded while it is counted.
        allCalls(new TutorLines());
        bytesSoFar();
        long atFirst = bytesSoFar();
        TutorLines tutor = new TutorLines();
        long made = bytesSoFar();
        int answered = allCalls(tutor);
        long used = bytesSoFar();
        Check.same("calls that were made", answered, CALLS);
        Check.same("bytes of an object: " + (made - atFirst), made - atFirst <= MOST_BYTES_OF_AN_OBJECT, true);
        Check.same("bytes of its calls: " + (used - made), used - made <= MOST_BYTES_OF_ALL_CALLS, true);
        Check.finish();
    }

    private static long bytesSoFar() {
        ThreadMXBean threads = (ThreadMXBean) ManagementFactory.getThreadMXBean();
        return threads.getThreadAllocatedBytes(Thread.currentThread().getId());
    }

    private static int allCalls(TutorLines tutor) {
        int calls = put(tutor, LONG_LINE);
        Check.same("begin with a long line", tutor.begin(LONG_LINE.length()), 0);
        calls++;
        for (int round = 0; round < 30; round++) {
            tutor.step(LONG_LINE.length());
            tutor.print();
            tutor.printed(round);
            tutor.hint();
            tutor.take();
            tutor.solutions(1);
            tutor.line(round % 9);
            tutor.slip();
            tutor.points(1 + round % 3);
            tutor.count(round % 4);
            tutor.undo();
            calls += 11;
        }
        calls += put(tutor, "-x>1");
        while (calls < CALLS - 2) {
            tutor.step(4);
            tutor.witness(calls % 2);
            calls += 2;
        }
        while (calls < CALLS) {
            tutor.slip();
            calls++;
        }
        return calls;
    }

    private static int put(TutorLines tutor, String text) {
        int calls = 0;
        for (int i = 0; i < text.length(); i += 4) {
            int v = 0;
            for (int k = 0; k < 4 && i + k < text.length(); k++) {
                v |= text.charAt(i + k) << (8 * k);
            }
            tutor.put(i, v);
            calls++;
        }
        return calls;
    }
}
