import com.sun.management.ThreadMXBean;
import java.lang.management.ManagementFactory;

/** All calls of a run share one room: what the dearest runs make stays far below it. */
public final class RoomTest {
    // 7.3 million fields and elements, were each of them but four bytes long
    private static final long ROOM = 4L * 7300000L;
    private static final ThreadMXBean MADE = (ThreadMXBean) ManagementFactory.getThreadMXBean();

    public static void main(String[] args) {
        manyTexts();
        manyNows();
        manyObjects();
        Check.end("RoomTest");
    }

    private static long made() {
        return MADE.getThreadAllocatedBytes(Thread.currentThread().getId());
    }

    private static String dearText() {
        StringBuilder s = new StringBuilder("speed 0 1;speed 1 1;");
        for (int i = 0; i < 8; i++) {
            s.append("spot ").append((char) ('a' + i)).append(' ').append(i % 2 * 90).append(" 0 0 0 0 0;");
        }
        for (int i = 0; i < 10; i++) {
            s.append("go ").append((char) ('a' + i % 8)).append(';');
        }
        return s.toString();
    }

    private static int[] words(String text) {
        int[] words = new int[(text.length() + 19) / 20 * 5];
        for (int i = 0; i < 4 * words.length; i++) {
            words[i / 4] = words[i / 4] << 8 | (i < text.length() ? text.charAt(i) : ' ');
        }
        return words;
    }

    private static void tell(SixJoints x, int[] words) {
        for (int i = 0; i + 4 < words.length; i += 5) {
            x.feed(words[i], words[i + 1], words[i + 2], words[i + 3], words[i + 4]);
        }
        x.text(x.count(7));
    }

    private static void within(String run, long from) {
        long bytes = made() - from;
        Check.due(run + " made " + bytes + " bytes", bytes < ROOM / 4, true);
    }

    private static void manyTexts() {
        int[] words = words(dearText());
        SixJoints x = new SixJoints();
        long from = made();
        for (int i = 0; i < 20; i++) {
            tell(x, words);
            Check.due("route", x.route(false) >= 0, true);
            x.route(true);
            x.tour();
            x.reach(i, 2);
            x.chance(i, 20, 1);
            x.solutions();
        }
        within("many texts", from);
    }

    private static void manyNows() {
        SixJoints x = new SixJoints();
        tell(x, words(dearText()));
        long from = made();
        for (int i = 0; i < 128; i++) {
            x.set(i % 6, i % 30);
            x.aimAt(-1);
            x.travel(false);
            x.roundest(true, 3);
        }
        within("many postures", from);
    }

    private static void manyObjects() {
        int[] words = words(dearText());
        long from = made();
        for (int i = 0; i < 40; i++) {
            SixJoints x = new SixJoints();
            tell(x, words);
            x.route(false);
            x.route(true);
            x.tour();
        }
        within("many objects", from);
    }
}
