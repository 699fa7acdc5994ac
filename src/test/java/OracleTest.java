import java.util.NoSuchElementException;
import java.util.Random;

/** Runs of calls by chance, on texts by chance, each answer held against the plain Oracle's. */
public final class OracleTest {
    private static Random r;
    private static SixJoints x;
    private static Oracle o;
    private static String story;

    public static void main(String[] args) {
        int runs = args.length > 0 ? Integer.parseInt(args[0]) : 220;
        long from = args.length > 1 ? Long.parseLong(args[1]) : 0;
        for (int run = 0; run < runs; run++) {
            r = new Random(7919L * (from + run) + 17);
            x = new SixJoints();
            o = new Oracle();
            story = "run " + (from + run) + ": ";
            int texts = r.nextInt(3);
            for (int i = 0; i < texts; i++) {
                tell(goodText());
                calls(60);
            }
            if (texts == 0) {
                calls(80);
            }
        }
        for (int run = 0; run < 20 * runs; run++) {
            r = new Random(104729L * (from + run) + 5);
            x = new SixJoints();
            o = new Oracle();
            story = "fault run " + (from + run) + ": ";
            for (int i = 0; i < 4; i++) {
                tell(spoilt(goodText()));
                shape();
            }
        }
        Check.end("OracleTest");
    }

    private static int in(int low, int high) {
        return low + r.nextInt(high - low + 1);
    }

    private static void due(String call, long got, long want) {
        Check.due(story + call, got, want);
    }

    // ---- texts

    private static int[] posture() {
        int[] p = new int[6];
        for (int j = 0; j < 6; j++) {
            p[j] = in(Oracle.BOUNDS[j][0], Oracle.BOUNDS[j][1]);
        }
        if (r.nextInt(3) == 0) {
            p[1] = 16 * in(-2, 1);
        }
        if (r.nextInt(4) == 0) {
            p[3] = r.nextInt(3) == 0 ? 0 : -32;
        }
        if (r.nextInt(3) == 0) {
            int up = r.nextInt(2) == 0 ? 16 : 48;
            p[4] = Math.floorMod(up - p[2] - p[3] + 32, 64) - 32;
        }
        return p;
    }

    private static String numbers(int[] p) {
        StringBuilder s = new StringBuilder();
        for (int v : p) {
            s.append(' ').append(v);
        }
        return s.toString();
    }

    private static String goodText() {
        StringBuilder s = new StringBuilder();
        String[] single = {"link", "hand", "height", "blend", "seed"};
        int[] most = {99, 99, 99, 9, 99999};
        for (int i = 0; i < single.length; i++) {
            if (r.nextInt(3) == 0) {
                int v = i < 2 && r.nextInt(3) == 0 ? new int[] {1, 10, 20, 50}[r.nextInt(4)] : in(i < 3 ? 1 : 0, most[i]);
                s.append(single[i]).append(' ').append(v).append(';');
            }
        }
        for (int j = 0; j < 6; j++) {
            if (r.nextInt(5) == 0) {
                int a = in(Oracle.BOUNDS[j][0], Oracle.BOUNDS[j][1]);
                int b = in(Oracle.BOUNDS[j][0], Oracle.BOUNDS[j][1]);
                s.append("limit ").append(j).append(' ').append(Math.min(a, b)).append(' ').append(Math.max(a, b)).append(";\n");
            }
            if (r.nextInt(3) == 0) {
                s.append("speed ").append(j).append(' ').append(in(1, 32)).append(";");
            }
        }
        if (r.nextInt(3) > 0) {
            s.append("rest").append(numbers(posture())).append(" ;");
        }
        int spots = r.nextInt(4) == 0 ? r.nextInt(9) : r.nextInt(5);
        String[] names = {"a", "b", "goo", "linked", "zzzzzz", "hands", "lin", "q"};
        for (int i = 0; i < spots; i++) {
            s.append("spot ").append(names[i]).append(numbers(posture())).append(";");
        }
        int stops = spots == 0 ? 0 : r.nextInt(8) == 0 ? r.nextInt(11) : r.nextInt(4);
        for (int i = 0; i < stops; i++) {
            s.append("go ").append(names[r.nextInt(spots)]).append(";");
        }
        return s.length() > 680 ? s.substring(0, s.lastIndexOf(";", 680) + 1) : s.toString();
    }

    private static String spoilt(String text) {
        StringBuilder s = new StringBuilder(text);
        String[] bits = {"-", "--", "9", " ", "\n", ";", "go", "a", "spot ", "limit ", "-5", "x", "0", "link", "rest",
            "go a;", "\t", "A", "\u00e9", "99999999999999999999", "go q;", "spot a 0 0 0 0 0 0;", "spot b",
            "speed 1 1;", "limit 1 0 0;", "blend 2;", "aaaaaaa", "seed 1;"};
        int changes = in(1, 3);
        for (int i = 0; i < changes; i++) {
            int at = r.nextInt(s.length() + 1);
            switch (r.nextInt(4)) {
                case 0 -> s.insert(at, bits[r.nextInt(bits.length)]);
                case 1 -> s.delete(at, Math.min(s.length(), at + in(1, 3)));
                case 2 -> {
                    int line = s.indexOf(";", at) + 1;
                    s.insert(line, bits[r.nextInt(bits.length)]);
                }
                default -> {
                    int line = s.indexOf(";", at) + 1;
                    int end = s.indexOf(";", line) + 1;
                    if (end > line) {
                        s.insert(r.nextBoolean() ? end : s.length(), s.substring(line, end));
                    }
                }
            }
        }
        return s.length() > 700 ? s.substring(0, 700) : s.toString();
    }

    private static void tell(String text) {
        byte[] bytes = Check.bytes(text);
        int len = bytes.length;
        for (int i = 0; i < len; i += 20) {
            int[] f = new int[5];
            for (int k = 0; k < 20; k++) {
                f[k / 4] = f[k / 4] << 8 | (i + k < len ? bytes[i + k] & 255 : 32);
            }
            due("feed", x.feed(f[0], f[1], f[2], f[3], f[4]), o.feed(f[0], f[1], f[2], f[3], f[4]));
        }
        if (r.nextInt(10) == 0) {
            due("text(701)", x.text(701), o.text(701));
            due("text(-1)", x.text(-1), o.text(-1));
        }
        int n = r.nextInt(12) == 0 ? r.nextInt(len + 1) : len;
        story += "[" + text.substring(0, n) + "] ";
        due("text(" + n + ")", x.text(n), o.text(n));
        due("fault(0)", x.fault(0), o.fault(0));
        due("fault(1)", x.fault(1), o.fault(1));
    }

    private static void shape() {
        for (int what = -1; what <= 8; what++) {
            due("count", x.count(what), o.count(what));
        }
        for (int j = 0; j < 6; j++) {
            for (int what = 0; what < 4; what++) {
                due("joint", x.joint(j, what), o.joint(j, what));
            }
            for (int s = -1; s < 9; s++) {
                due("spot", x.spot(s, j), o.spot(s, j));
            }
            due("aim", x.aim(j), o.aim(j));
        }
        for (String name : new String[] {"a", "b", "goo", "linked", "zzzzzz", "hands", "lin", "q", "aa", ""}) {
            due("named " + name, x.named(Check.letters(name)), o.named(Check.letters(name)));
        }
    }

    // ---- calls

    private static void calls(int n) {
        shape();
        for (int i = 0; i < n; i++) {
            int kind = r.nextInt(40);
            if (kind < 12) {
                change(kind);
            } else if (kind < 20) {
                ask(kind);
            } else if (kind < 36) {
                askRoute(kind);
            } else {
                askRest(kind);
            }
        }
    }

    private static void change(int kind) {
        int j = in(-1, 6);
        int s = in(-1, 8);
        if (kind <= 2) {
            int[] p = posture();
            int v = j >= 0 && j < 6 ? p[j] : 0;
            story += "set(" + j + ", " + v + ") ";
            due("", x.set(j, v) ? 1 : 0, o.set(j, v) ? 1 : 0);
        } else if (kind == 3) {
            int[] p = posture();
            for (int q = 0; q < 6; q++) {
                story += "set(" + q + ", " + p[q] + ") ";
                due("", x.set(q, p[q]) ? 1 : 0, o.set(q, p[q]) ? 1 : 0);
            }
        } else if (kind <= 6) {
            story += "aimAt(" + s + ") ";
            due("", x.aimAt(s) ? 1 : 0, o.aimAt(s) ? 1 : 0);
        } else if (kind == 7) {
            aimBy();
        } else if (kind == 8) {
            int n = Math.max(1, o.solutions() + 1);
            int k = r.nextInt(n);
            story += "take(" + k + ") ";
            due("", x.take(k) ? 1 : 0, o.take(k) ? 1 : 0);
        } else if (kind == 9) {
            story += "undo() ";
            due("", x.undo(), o.undo());
        } else if (kind == 10) {
            story += "keep() ";
            due("", x.keep() ? 1 : 0, o.keep() ? 1 : 0);
        } else if (r.nextInt(3) == 0) {
            story += "back() ";
            due("", x.back() ? 1 : 0, o.back() ? 1 : 0);
        }
        for (int q = 0; q < 6; q++) {
            due("joint " + q, x.joint(q, 0), o.joint(q, 0));
            due("aim " + q, x.aim(q), o.aim(q));
        }
        due("undoable", x.count(6), o.count(6));
    }

    private static void aimBy() {
        int what = in(-1, 6);
        long v;
        if (what >= 3) {
            v = r.nextInt(6) == 0 ? in(-2, 70) : r.nextBoolean() ? in(0, 63) : (o.aim(what) + 32 * r.nextInt(2)) & 63;
        } else if (what == 0) {
            v = r.nextInt(4) == 0 ? new long[] {-1000000001L, -1000000000L, 1000000000L, 1000000001L, 1L << 40,
                Long.MIN_VALUE}[r.nextInt(6)] : o.aim(0) + 1000000L * in(-120, 120);
        } else {
            v = r.nextInt(3) == 0 ? -o.aim(what) : r.nextInt(3) == 0 ? 0 : in(-100000, 100000);
        }
        story += "aimBy(" + what + ", " + v + ") ";
        due("", x.aimBy(what, v) ? 1 : 0, o.aimBy(what, v) ? 1 : 0);
    }

    private static void ask(int kind) {
        int n = o.solutions();
        int k = in(-1, Math.max(0, n));
        int j = in(-1, 6);
        switch (kind) {
            case 12 -> due("solutions", x.solutions(), n);
            case 13 -> {
                for (int i = -1; i <= n; i++) {
                    due("solution(" + i + ", " + j + ")", x.solution(i, j), o.solution(i, j));
                }
            }
            case 14 -> {
                for (int what = -1; what <= 5; what++) {
                    due("way(" + k + ", " + what + ")", x.way(k, what), o.way(k, what));
                }
            }
            case 15 -> due("why", x.why(), o.why());
            case 16 -> due("nearest(false)", x.nearest(false), o.nearest(false));
            case 17 -> due("nearest(true)", x.nearest(true), o.nearest(true));
            case 18 -> due("clearest", x.clearest(), o.clearest());
            default -> {
                for (int what = -1; what <= 7; what++) {
                    due("hand(" + what + ")", x.hand(what), o.hand(what));
                    due("now(" + what + ")", x.now(what), o.now(what));
                    due("aim(" + what + ")", x.aim(what), o.aim(what));
                }
            }
        }
    }

    private static void askRoute(int kind) {
        boolean s = r.nextBoolean();
        boolean smooth = r.nextBoolean();
        int j = in(-1, 6);
        int i = in(-1, 10);
        int t = in(-1, Math.max(0, o.route(s)) + 1);
        int spot = in(-1, 4);
        switch (kind) {
            case 20, 21 -> due("route " + s, x.route(s), o.route(s));
            case 22 -> due("by " + s + i, x.by(s, i), o.by(s, i));
            case 23 -> due("at", x.at(s, t, j), o.at(s, t, j));
            case 24 -> {
                for (int u = -10; u < 12; u++) {
                    int v = u < 0 ? u : o.route(s) + u;
                    due("blended", x.blended(s, v, j), o.blended(s, v, j));
                }
                due("blended", x.blended(s, t, j), o.blended(s, t, j));
            }
            case 25 -> due("fastest", x.fastest(s, j, smooth), o.fastest(s, j, smooth));
            case 26 -> due("misses", x.misses(s, i, j), o.misses(s, i, j));
            case 27 -> {
                int m = r.nextInt(4) == 0 ? in(-1, 100) : in(0, 12);
                due("roundest", x.roundest(s, m), o.roundest(s, m));
            }
            case 28 -> {
                for (int what = -1; what <= 3; what++) {
                    due("changes", x.changes(s, what), o.changes(s, what));
                }
            }
            case 29 -> due("travel", x.travel(s), o.travel(s));
            case 30 -> due("slow", x.slow(s), o.slow(s));
            case 31 -> due("clear", x.clear(s), o.clear(s));
            case 32 -> askStep(spot, j);
            case 33 -> due("meets", x.meets(spot), o.meets(spot));
            case 34 -> due("free", x.free(j, s), o.free(j, s));
            default -> {
                for (int u = 0; u <= o.route(s); u++) {
                    for (int q = 0; q < 6; q++) {
                        due("at(" + s + ", " + u + ", " + q + ")", x.at(s, u, q), o.at(s, u, q));
                    }
                }
            }
        }
    }

    private static void askStep(int spot, int j) {
        for (int t = -1; t < 130; t++) {
            due("step(" + spot + ", " + t + ", " + j + ")", x.step(spot, t, j), o.step(spot, t, j));
        }
    }

    private static void askRest(int kind) {
        if (kind == 36) {
            if (o.count(4) < 8 || r.nextInt(4) == 0) {
                due("tour", x.tour(), o.tour());
                for (int i = -1; i <= o.count(4); i++) {
                    due("stop(" + i + ")", x.stop(i), o.stop(i));
                }
            }
        } else if (kind == 37) {
            int pitch = in(-1, 64);
            for (int what = -1; what <= 3; what++) {
                due("reach(" + pitch + ", " + what + ")", x.reach(pitch, what), o.reach(pitch, what));
            }
            int out = r.nextInt(5) == 0 ? r.nextBoolean() ? r.nextInt() : Integer.MIN_VALUE : in(-1000, 1000) * (2 * o.count(0) + o.count(1));
            due("high(" + out + ")", x.high(out), o.high(out));
        } else if (kind == 38) {
            int seed = r.nextInt(3) == 0 ? -1 : r.nextInt(8) == 0 ? -2 : r.nextInt() & 0x7fffffff;
            int n = r.nextInt(8) == 0 ? new int[] {0, 20, 21}[r.nextInt(3)] : in(1, 3);
            int what = r.nextInt(8) == 0 ? in(-1, 4) : in(0, 3);
            due("chance(" + seed + ", " + n + ", " + what + ")", x.chance(seed, n, what), o.chance(seed, n, what));
        } else {
            int j = in(-1, 6);
            int what = in(-1, 4);
            due("joint(" + j + ", " + what + ")", thrown(x, null, j, what), thrown(null, o, j, what));
        }
    }

    private static long thrown(SixJoints a, Oracle b, int j, int what) {
        try {
            return a != null ? a.joint(j, what) : b.joint(j, what);
        } catch (IndexOutOfBoundsException e) {
            return -1001;
        } catch (NoSuchElementException e) {
            return -1002;
        }
    }
}
