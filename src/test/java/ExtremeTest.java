import java.util.NoSuchElementException;
import java.util.Random;

/** Numbers from the ends of their types in every call, in many states: only joint() ever throws. */
public final class ExtremeTest {
    private static final int[] ENDS = {Integer.MIN_VALUE, Integer.MIN_VALUE + 1, -1000000, -701, -65, -33, -10, -2, -1, 0,
        1, 2, 3, 4, 5, 6, 7, 8, 9, 10, 31, 32, 63, 64, 99, 100, 600, 601, 700, 701, 1000000, Integer.MAX_VALUE - 1,
        Integer.MAX_VALUE};
    private static final String[] TEXTS = {"", "rest 5 7 3 -32 -19 0;spot a 5 7 3 -32 -19 0;go a;",
        "limit 0 0 0;limit 1 31 31;limit 2 31 31;limit 3 31 31;limit 4 31 31;limit 5 63 63;spot a 99 -32 -32 -32 -32 -64;go a;",
        "blend 9;speed 5 1;rest 0 16 4 8 2 -64;spot a 99 16 4 8 2 63;spot b 0 -16 4 -8 2 -64;go a;go b;go a;go b;",
        "link 99;hand 99;height 99;rest 99 16 16 16 16 0;spot zzzzzz 0 0 0 0 0 0;go zzzzzz;"};
    private static Random r;

    public static void main(String[] args) {
        for (int run = 0; run < 60; run++) {
            r = new Random(run);
            SixJoints x = Check.told(TEXTS[run % TEXTS.length]);
            for (int i = 0; i < 400; i++) {
                int call = r.nextInt(43);
                Check.due("call " + call + " of run " + run, threw(x, call), false);
            }
        }
        Check.end("ExtremeTest");
    }

    private static int end() {
        return ENDS[r.nextInt(ENDS.length)];
    }

    private static boolean threw(SixJoints x, int call) {
        boolean b = r.nextBoolean();
        try {
            if (call < 22) {
                first(x, call, b);
            } else {
                second(x, call, b);
            }
            return false;
        } catch (RuntimeException e) {
            boolean due = call == 5 && (e.getClass() == IndexOutOfBoundsException.class
                || e.getClass() == NoSuchElementException.class);
            return !due;
        }
    }

    private static void first(SixJoints x, int call, boolean b) {
        switch (call) {
            case 0, 1 -> x.undo();
            case 2 -> x.feed(end(), end(), end(), end(), end());
            case 3 -> x.text(r.nextInt(4) == 0 ? end() : -1);
            case 4 -> x.named(end() + x.fault(end()));
            case 5 -> x.joint(end(), end());
            case 6 -> x.spot(end(), end());
            case 7 -> x.set(r.nextInt(6), end());
            case 8 -> x.set(end(), end());
            case 9 -> x.hand(end());
            case 10 -> x.now(end());
            case 11 -> x.aim(end());
            case 12 -> x.aimAt(end());
            case 13 -> x.aimBy(end(), b ? end() : r.nextBoolean() ? Long.MAX_VALUE : Long.MIN_VALUE);
            case 14 -> x.aimBy(r.nextInt(3), 1000000000L * (r.nextInt(3) - 1));
            case 15 -> x.solutions();
            case 16 -> x.solution(end(), end());
            case 17 -> x.way(end(), end());
            case 18 -> x.why();
            case 19 -> x.nearest(b);
            case 20 -> x.clearest();
            default -> x.take(end());
        }
    }

    private static void second(SixJoints x, int call, boolean b) {
        switch (call) {
            case 22 -> x.step(end(), end(), end());
            case 23 -> x.meets(end());
            case 24 -> x.route(b);
            case 25 -> x.by(b, end());
            case 26 -> x.at(b, end(), end());
            case 27 -> x.blended(b, end(), end());
            case 28 -> x.fastest(b, end(), r.nextBoolean());
            case 29 -> x.misses(b, end(), end());
            case 30 -> x.roundest(b, end());
            case 31 -> x.changes(b, end());
            case 32 -> x.travel(b);
            case 33 -> x.tour();
            case 34 -> x.stop(end());
            case 35 -> x.free(end(), b);
            case 36 -> x.slow(b);
            case 37 -> x.clear(b);
            case 38 -> x.reach(end(), end());
            case 39 -> x.high(end());
            case 40 -> x.chance(end(), end(), end());
            case 41 -> x.keep();
            default -> {
                if (r.nextInt(4) == 0) {
                    x.back();
                }
                x.count(end());
            }
        }
    }
}
