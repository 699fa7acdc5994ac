import java.util.ArrayList;
import java.util.Arrays;
import java.util.List;
import java.util.NoSuchElementException;
import java.util.regex.Matcher;
import java.util.regex.Pattern;

/** The document word by word, without any regard to speed: what SixJoints is held against. */
final class Oracle {
    static final int[][] BOUNDS = {{0, 99}, {-32, 31}, {-32, 31}, {-32, 31}, {-32, 31}, {-64, 63}};
    static final int[] QUARTER = {1000, 995, 981, 957, 924, 882, 831, 773, 707, 634, 556, 471, 383, 290, 195, 98, 0};

    private static final class Fault extends Exception {
        private static final long serialVersionUID = 1L;
        final int kind;
        final int place;

        Fault(int kind, int place) {
            this.kind = kind;
            this.place = place;
        }
    }

    private static final class Told {
        int link = 9;
        int hand = 4;
        int height = 10;
        int blend = 2;
        int seed = 0;
        int[][] limit = new int[6][];
        int[] speed = {4, 4, 4, 4, 4, 4};
        int[] rest = new int[6];
        List<String> names = new ArrayList<>();
        List<int[]> spots = new ArrayList<>();
        List<Integer> way = new ArrayList<>();
        int lines = 0;

        Told() {
            for (int j = 0; j < 6; j++) {
                limit[j] = BOUNDS[j].clone();
            }
        }
    }

    private Told t = new Told();
    private byte[] tape = new byte[0];
    private int fault = 0;
    private int faultPlace = -1;
    private int[] now = new int[6];
    private long[] aim = new long[6];
    private final ArrayList<Object[]> past = new ArrayList<>();
    private Object[] image = null;
    private int[][] arms;

    Oracle() {
        begin();
    }

    private void begin() {
        now = t.rest.clone();
        aim = placeOf(now);
        past.clear();
        image = null;
        arms = null;
    }

    // ---- numbers

    static int cos(int k) {
        int m = Math.floorMod(k, 64);
        if (m > 32) {
            m = 64 - m;
        }
        return m <= 16 ? QUARTER[m] : -QUARTER[32 - m];
    }

    static int sin(int k) {
        return cos(k - 16);
    }

    int out(int[] p) {
        int a = p[2];
        int b = a + p[3];
        int pitch = b + p[4];
        return t.link * (cos(a) + cos(b)) + t.hand * cos(pitch);
    }

    long[] placeOf(int[] p) {
        int a = p[2];
        int b = a + p[3];
        int pitch = b + p[4];
        long o = out(p);
        return new long[] {1000000L * p[0] + o * cos(p[1]), o * sin(p[1]),
            1000L * t.height + t.link * (sin(a) + sin(b)) + t.hand * sin(pitch),
            Math.floorMod(p[1], 64), Math.floorMod(pitch, 64), Math.floorMod(p[5], 64)};
    }

    static boolean same64(long a, long b) {
        return Math.floorMod(a - b, 64L) == 0;
    }

    static boolean alike(long[] a, long[] b) {
        if (a[0] != b[0] || a[1] != b[1] || a[2] != b[2]) {
            return false;
        }
        if (same64(a[3], b[3]) && same64(a[4], b[4]) && same64(a[5], b[5])) {
            return true;
        }
        if (same64(a[3] + 32, b[3]) && same64(32 - a[4], b[4]) && same64(a[5] + 32, b[5])) {
            return true;
        }
        if (same64(a[4], 16) && same64(b[4], 16) && same64(a[3] + a[5], b[3] + b[5])) {
            return true;
        }
        return same64(a[4], 48) && same64(b[4], 48) && same64(a[3] - a[5], b[3] - b[5]);
    }

    static int side(int[] p) {
        return Integer.signum(sin(p[1]));
    }

    static int bend(int[] p) {
        return Integer.signum(sin(p[3]));
    }

    static int measure(int[] p) {
        return Math.abs(sin(p[1]) * sin(p[3])) / 1000;
    }

    static boolean kept(int[] p, int[] q) {
        return measure(p) != 0 && measure(q) != 0 && side(p) == side(q) && bend(p) == bend(q);
    }

    int ticks(int[] p, int[] q) {
        int most = 0;
        for (int j = 0; j < 6; j++) {
            int d = Math.abs(p[j] - q[j]);
            int n = d / t.speed[j] + (d % t.speed[j] == 0 ? 0 : 1);
            most = Math.max(most, n);
        }
        return most;
    }

    static int[] between(int[] p, int[] q, int tick, int ticks) {
        int[] r = p.clone();
        if (ticks == 0) {
            return r;
        }
        for (int j = 0; j < 6; j++) {
            int d = (q[j] - p[j]) * tick;
            r[j] += d < 0 ? -(-d / ticks) : d / ticks;
        }
        return r;
    }

    boolean within(int j, long v) {
        return v >= t.limit[j][0] && v <= t.limit[j][1];
    }

    // ---- the text

    int feed(int a, int b, int c, int d, int e) {
        if (tape.length + 20 > 700) {
            return -1;
        }
        int at = tape.length;
        tape = Arrays.copyOf(tape, at + 20);
        for (int v : new int[] {a, b, c, d, e}) {
            tape[at++] = (byte) (v >> 24);
            tape[at++] = (byte) (v >> 16);
            tape[at++] = (byte) (v >> 8);
            tape[at++] = (byte) v;
        }
        return tape.length;
    }

    private static final String LANGUAGE = " link hand height limit speed blend seed rest spot go ";
    private static final Pattern TOKEN = Pattern.compile("[a-z]+|-?[0-9]+|;|[^ \\n]", Pattern.DOTALL);
    private List<String> tokens;
    private List<Integer> places;
    private int token;

    int text(int n) {
        if (n < 0 || n > tape.length) {
            return -2;
        }
        StringBuilder s = new StringBuilder();
        for (int i = 0; i < n; i++) {
            s.append((char) (tape[i] & 255));
        }
        tape = new byte[0];
        tokens = new ArrayList<>();
        places = new ArrayList<>();
        Matcher m = TOKEN.matcher(s);
        while (m.find()) {
            tokens.add(m.group());
            places.add(m.start());
        }
        tokens.add("");
        places.add(n);
        token = 0;
        try {
            Told fresh = new Told();
            List<String> once = new ArrayList<>();
            while (token < tokens.size() - 1) {
                line(fresh, once);
                fresh.lines++;
            }
            t = fresh;
            fault = 0;
            faultPlace = -1;
            begin();
            return t.lines;
        } catch (Fault f) {
            fault = f.kind;
            faultPlace = f.place;
            return -1;
        }
    }

    private int place() {
        return places.get(token);
    }

    private void line(Told f, List<String> once) throws Fault {
        String word = tokens.get(token);
        if (!word.matches("[a-z]+") || !LANGUAGE.contains(" " + word + " ")) {
            throw new Fault(1, place());
        }
        if (word.equals("spot") && f.spots.size() == 8 || word.equals("go") && f.way.size() == 10) {
            throw new Fault(2, place());
        }
        boolean single = " link hand height blend seed rest ".contains(" " + word + " ");
        if (single) {
            tellOnce(once, word);
        }
        token++;
        switch (word) {
            case "link" -> f.link = number(1, 99, false);
            case "hand" -> f.hand = number(1, 99, false);
            case "height" -> f.height = number(1, 99, false);
            case "blend" -> f.blend = number(0, 9, false);
            case "seed" -> f.seed = number(0, 99999, false);
            case "rest" -> f.rest = posture();
            case "limit" -> {
                int at = token;
                int j = number(0, 5, false);
                tellOnceAt(once, "limit" + j, at);
                int low = number(BOUNDS[j][0], BOUNDS[j][1], true);
                f.limit[j] = new int[] {low, number(low, BOUNDS[j][1], true)};
            }
            case "speed" -> {
                int at = token;
                int j = number(0, 5, false);
                tellOnceAt(once, "speed" + j, at);
                f.speed[j] = number(1, 32, false);
            }
            case "spot" -> {
                String name = name();
                if (f.names.contains(name)) {
                    throw new Fault(3, places.get(token - 1));
                }
                f.names.add(name);
                f.spots.add(posture());
            }
            default -> {
                String name = name();
                if (!f.names.contains(name)) {
                    throw new Fault(4, places.get(token - 1));
                }
                f.way.add(f.names.indexOf(name));
            }
        }
        if (!tokens.get(token).equals(";")) {
            throw new Fault(1, place());
        }
        token++;
    }

    private void tellOnce(List<String> once, String what) throws Fault {
        tellOnceAt(once, what, token);
    }

    private void tellOnceAt(List<String> once, String what, int at) throws Fault {
        if (once.contains(what)) {
            throw new Fault(3, places.get(at));
        }
        once.add(what);
    }

    private String name() throws Fault {
        String s = tokens.get(token);
        if (!s.matches("[a-z]{1,6}") || LANGUAGE.contains(" " + s + " ")) {
            throw new Fault(1, place());
        }
        token++;
        return s;
    }

    private int[] posture() throws Fault {
        int[] p = new int[6];
        for (int j = 0; j < 6; j++) {
            p[j] = number(BOUNDS[j][0], BOUNDS[j][1], true);
        }
        return p;
    }

    private int number(int low, int high, boolean signed) throws Fault {
        String s = tokens.get(token);
        if (!s.matches(signed ? "-?[0-9]+" : "[0-9]+")) {
            throw new Fault(1, place());
        }
        java.math.BigInteger v = new java.math.BigInteger(s);
        if (v.compareTo(java.math.BigInteger.valueOf(low)) < 0 || v.compareTo(java.math.BigInteger.valueOf(high)) > 0) {
            throw new Fault(2, place());
        }
        token++;
        return v.intValue();
    }

    int fault(int what) {
        return what == 0 ? fault : what == 1 ? faultPlace : -1;
    }

    int named(int letters) {
        for (String name : t.names) {
            if (Check.letters(name) == letters) {
                return t.names.indexOf(name);
            }
        }
        return -1;
    }

    // ---- state

    int joint(int j, int what) {
        if (j < 0 || j > 5) {
            throw new IndexOutOfBoundsException();
        }
        if (what < 0 || what > 3) {
            throw new NoSuchElementException();
        }
        return what == 0 ? now[j] : what == 3 ? t.speed[j] : t.limit[j][what - 1];
    }

    private boolean isSpot(int s) {
        return s >= 0 && s < t.spots.size();
    }

    private static boolean isJoint(int j) {
        return j >= 0 && j < 6;
    }

    int spot(int s, int j) {
        return isSpot(s) && isJoint(j) ? t.spots.get(s)[j] : 0;
    }

    private void remember() {
        past.add(new Object[] {now.clone(), aim.clone()});
        if (past.size() > 20) {
            past.remove(0);
        }
    }

    boolean set(int j, int v) {
        if (!isJoint(j) || !within(j, v)) {
            return false;
        }
        remember();
        now[j] = v;
        return true;
    }

    long hand(int what) {
        return what == 6 ? out(now) : what >= 0 && what < 6 ? placeOf(now)[what] : 0;
    }

    int now(int what) {
        int beyond = 0;
        for (int j = 0; j < 6; j++) {
            beyond += within(j, now[j]) ? 0 : 1;
        }
        return what == 3 ? beyond : about(now, what);
    }

    private static int about(int[] p, int what) {
        return what == 0 ? side(p) : what == 1 ? bend(p) : what == 2 ? measure(p) : -9;
    }

    long aim(int what) {
        return what >= 0 && what < 6 ? aim[what] : 0;
    }

    boolean aimAt(int s) {
        if (s != -1 && !isSpot(s)) {
            return false;
        }
        remember();
        aim = placeOf(s == -1 ? now : t.spots.get(s));
        return true;
    }

    boolean aimBy(int what, long v) {
        boolean fine = what >= 0 && what <= 2 && Math.abs(v) <= 1000000000L && v != Long.MIN_VALUE
            || what >= 3 && what <= 5 && v >= 0 && v <= 63;
        if (fine) {
            remember();
            aim[what] = v;
        }
        return fine;
    }

    // ---- solutions

    /** All POSTURES within BOUNDS, RAIL any whole number, that are ALIKE. */
    private List<int[]> alikes(long[] place) {
        if (arms == null) {
            arms = new int[64 * 64 * 64][];
            int n = 0;
            for (int s = -32; s < 32; s++) {
                for (int e = -32; e < 32; e++) {
                    for (int w = -32; w < 32; w++) {
                        int[] p = {0, 0, s, e, w, 0};
                        arms[n++] = new int[] {s, e, w, (int) placeOf(p)[2], out(p)};
                    }
                }
            }
        }
        List<int[]> found = new ArrayList<>();
        for (int[] a : arms) {
            if (a[3] != place[2]) {
                continue;
            }
            for (int turn = -32; turn < 32; turn++) {
                if ((long) a[4] * sin(turn) != place[1]) {
                    continue;
                }
                for (int roll = -64; roll < 64; roll++) {
                    long left = place[0] - (long) a[4] * cos(turn);
                    int[] p = {(int) Math.floorDiv(left, 1000000L), turn, a[0], a[1], a[2], roll};
                    if (alike(place, placeOf(p))) {
                        found.add(p);
                    }
                }
            }
        }
        return found;
    }

    List<int[]> held(long[] place) {
        List<int[]> found = new ArrayList<>();
        for (int[] p : alikes(place)) {
            boolean fine = true;
            for (int j = 0; j < 6; j++) {
                fine &= within(j, p[j]);
            }
            if (fine) {
                found.add(p);
            }
        }
        found.sort(Arrays::compare);
        return found;
    }

    private long[] heldFor;
    private Told heldBy;
    private List<int[]> heldLast;

    private List<int[]> held() {
        if (heldBy != t || !Arrays.equals(heldFor, aim)) {
            heldBy = t;
            heldFor = aim.clone();
            heldLast = held(aim);
        }
        return heldLast;
    }

    int solutions() {
        int n = held().size();
        return n > 600 ? -3 : n;
    }

    private boolean isSolution(int k) {
        return held().size() <= 600 && k >= 0 && k < held().size();
    }

    int solution(int k, int j) {
        return isSolution(k) && isJoint(j) ? held().get(k)[j] : -99;
    }

    int way(int k, int what) {
        if (!isSolution(k)) {
            return -9;
        }
        int[] p = held().get(k);
        return what == 3 ? ticks(now, p) : what == 4 ? kept(now, p) ? 1 : 0 : about(p, what);
    }

    int why() {
        if (!held().isEmpty()) {
            return 0;
        }
        List<int[]> all = alikes(aim);
        if (all.isEmpty()) {
            return 1;
        }
        for (int j = 0; j < 6; j++) {
            final int joint = j;
            all.removeIf(p -> !within(joint, p[joint]));
            if (all.isEmpty()) {
                return j + 2;
            }
        }
        throw new IllegalStateException();
    }

    int nearest(boolean steady) {
        List<int[]> all = held();
        int best = -2;
        for (int k = 0; k < all.size(); k++) {
            if (steady && !kept(now, all.get(k))) {
                continue;
            }
            if (best == -2 || ticks(now, all.get(k)) < ticks(now, all.get(best))) {
                best = k;
            }
        }
        return best == -2 ? -2 : all.size() > 600 ? -3 : best;
    }

    int clearest() {
        List<int[]> all = held();
        int best = -2;
        for (int k = 0; k < all.size(); k++) {
            if (best == -2 || measure(all.get(k)) > measure(all.get(best))) {
                best = k;
            }
        }
        return all.size() > 600 ? -3 : best;
    }

    boolean take(int k) {
        if (!isSolution(k)) {
            return false;
        }
        remember();
        now = held().get(k).clone();
        return true;
    }

    // ---- moves

    int step(int s, int tick, int j) {
        if (!isSpot(s) || !isJoint(j) || tick < 0 || tick > ticks(now, t.spots.get(s))) {
            return -99;
        }
        return between(now, t.spots.get(s), tick, ticks(now, t.spots.get(s)))[j];
    }

    int meets(int s) {
        if (!isSpot(s)) {
            return -1;
        }
        int all = ticks(now, t.spots.get(s));
        for (int tick = 0; tick <= all; tick++) {
            if (measure(between(now, t.spots.get(s), tick, all)) == 0) {
                return tick;
            }
        }
        return -2;
    }

    // ---- routes

    private static final class Way {
        int code;
        int[] picks;
        int[] corners;
        List<int[]> steps;

        int[] at(int tick) {
            return steps.get(Math.max(0, Math.min(steps.size() - 1, tick)));
        }

        int sum(int tick, int blend, int joint) {
            int s = 0;
            for (int u = tick - blend; u <= tick + blend; u++) {
                s += at(u)[joint];
            }
            return s;
        }
    }

    private final Way[] ways = new Way[2];
    private final Told[] wayBy = new Told[2];
    private final int[][] wayFrom = new int[2][];

    private Way way(boolean steady) {
        int i = steady ? 1 : 0;
        if (wayBy[i] != t || !Arrays.equals(wayFrom[i], now)) {
            wayBy[i] = t;
            wayFrom[i] = now.clone();
            ways[i] = find(steady);
        }
        return ways[i];
    }

    private Told spotsBy;
    private List<List<int[]>> spotsHeld;

    private Way find(boolean steady) {
        if (spotsBy != t) {
            spotsBy = t;
            spotsHeld = new ArrayList<>();
            for (int[] spot : t.spots) {
                spotsHeld.add(held(placeOf(spot)));
            }
        }
        Way w = new Way();
        boolean none = false;
        boolean many = false;
        for (int s : t.way) {
            none |= spotsHeld.get(s).isEmpty();
            many |= spotsHeld.get(s).size() > 600;
        }
        w.code = none ? -2 : many ? -3 : 0;
        w.picks = w.code == 0 ? best(steady) : null;
        if (w.code == 0 && w.picks == null) {
            w.code = -2;
        }
        if (w.code == 0) {
            walk(w);
        }
        return w;
    }

    private void walk(Way w) {
        w.steps = new ArrayList<>(List.of(now.clone()));
        w.corners = new int[w.picks.length];
        int[] here = now;
        for (int i = 0; i < w.picks.length; i++) {
            int[] there = spotsHeld.get(t.way.get(i)).get(w.picks[i]);
            int all = ticks(here, there);
            for (int tick = 1; tick <= all; tick++) {
                w.steps.add(between(here, there, tick, all));
            }
            w.code += all;
            w.corners[i] = w.code;
            here = there;
        }
    }

    /** Forwards: to each SOLUTION the best numbers so far, fewest TICKS, then the first in order. */
    private int[] best(boolean steady) {
        List<int[]> from = List.of(now);
        List<int[]> paths = new ArrayList<>(List.of(new int[0]));
        List<Integer> costs = new ArrayList<>(List.of(0));
        for (int s : t.way) {
            List<int[]> to = spotsHeld.get(s);
            List<int[]> nextPaths = new ArrayList<>();
            List<Integer> nextCosts = new ArrayList<>();
            for (int k = 0; k < to.size(); k++) {
                int[] path = null;
                int cost = 0;
                for (int m = 0; m < from.size(); m++) {
                    if (paths.get(m) == null || steady && !kept(from.get(m), to.get(k))) {
                        continue;
                    }
                    int c = costs.get(m) + ticks(from.get(m), to.get(k));
                    if (path == null || c < cost || c == cost && Arrays.compare(paths.get(m), path) < 0) {
                        path = paths.get(m);
                        cost = c;
                    }
                }
                if (path != null) {
                    path = Arrays.copyOf(path, path.length + 1);
                    path[path.length - 1] = k;
                }
                nextPaths.add(path);
                nextCosts.add(cost);
            }
            from = to;
            paths = nextPaths;
            costs = nextCosts;
        }
        int[] path = null;
        int cost = 0;
        for (int m = 0; m < from.size(); m++) {
            if (paths.get(m) != null && (path == null || costs.get(m) < cost
                || costs.get(m) == cost && Arrays.compare(paths.get(m), path) < 0)) {
                path = paths.get(m);
                cost = costs.get(m);
            }
        }
        return path;
    }

    int route(boolean steady) {
        return way(steady).code;
    }

    private boolean isStop(int i) {
        return i >= 0 && i < t.way.size();
    }

    int by(boolean steady, int i) {
        return !isStop(i) ? -1 : way(steady).code < 0 ? way(steady).code : way(steady).picks[i];
    }

    int at(boolean steady, int tick, int j) {
        Way w = way(steady);
        return w.code < 0 || tick < 0 || tick > w.code || !isJoint(j) ? -99 : w.at(tick)[j];
    }

    int blended(boolean steady, int tick, int j) {
        Way w = way(steady);
        boolean fine = w.code >= 0 && isJoint(j) && tick >= -t.blend && tick <= w.code + t.blend;
        return fine ? w.sum(tick, t.blend, j) : -9999;
    }

    int fastest(boolean steady, int j, boolean smooth) {
        Way w = way(steady);
        if (!isJoint(j)) {
            return -1;
        }
        if (w.code < 0) {
            return w.code;
        }
        int most = 0;
        int b = smooth ? t.blend : 0;
        for (int tick = -b; tick < w.code + b; tick++) {
            most = Math.max(most, Math.abs(w.sum(tick + 1, b, j) - w.sum(tick, b, j)));
        }
        return most;
    }

    int misses(boolean steady, int i, int j) {
        Way w = way(steady);
        return !isStop(i) || !isJoint(j) ? -1 : w.code < 0 ? w.code : off(w, i, j, t.blend);
    }

    private static int off(Way w, int i, int j, int b) {
        return Math.abs(w.sum(w.corners[i], b, j) - w.at(w.corners[i])[j] * (2 * b + 1));
    }

    int roundest(boolean steady, int m) {
        Way w = way(steady);
        if (m < 0 || m > 99) {
            return -1;
        }
        if (w.code < 0) {
            return w.code;
        }
        int greatest = -7;
        for (int b = 0; b <= 9; b++) {
            boolean fine = true;
            for (int i = 0; i < t.way.size(); i++) {
                for (int j = 0; j < 6; j++) {
                    fine &= off(w, i, j, b) <= m * (2 * b + 1);
                }
            }
            greatest = fine ? b : greatest;
        }
        return greatest;
    }

    int changes(boolean steady, int what) {
        Way w = way(steady);
        if (what < 0 || what > 2) {
            return -1;
        }
        if (w.code < 0) {
            return w.code;
        }
        int n = 0;
        List<Integer> signs = new ArrayList<>();
        for (int tick = 1; tick <= w.code; tick++) {
            int[] a = w.at(tick - 1);
            int[] b = w.at(tick);
            if (what < 2) {
                n += about(a, what) == about(b, what) ? 0 : 1;
            } else if (a[5] != b[5]) {
                signs.add(Integer.signum(b[5] - a[5]));
            }
        }
        for (int i = 1; i < signs.size(); i++) {
            n += signs.get(i).equals(signs.get(i - 1)) ? 0 : 1;
        }
        return n;
    }

    long travel(boolean steady) {
        Way w = way(steady);
        if (w.code < 0) {
            return w.code;
        }
        long sum = 0;
        for (int tick = 1; tick <= w.code; tick++) {
            long[] a = placeOf(w.at(tick - 1));
            long[] b = placeOf(w.at(tick));
            sum += Math.abs(a[0] - b[0]) + Math.abs(a[1] - b[1]) + Math.abs(1000 * a[2] - 1000 * b[2]);
        }
        return sum;
    }

    int slow(boolean steady) {
        Way w = way(steady);
        int sum = 0;
        for (int tick = 1; tick <= w.code; tick++) {
            int m = measure(w.at(tick));
            sum += m < 50 ? 4 : m < 200 ? 2 : 1;
        }
        return w.code < 0 ? w.code : sum;
    }

    int clear(boolean steady) {
        Way w = way(steady);
        if (w.code < 0) {
            return w.code;
        }
        int least = 1000000;
        for (int[] p : w.steps) {
            least = Math.min(least, measure(p));
        }
        return least;
    }

    // ---- tour

    private int tourBest;
    private int[] tourOrder;

    private void orders(int[] order, int n, int cost, int[] here) {
        if (n == order.length) {
            if (tourOrder == null || cost < tourBest) {
                tourBest = cost;
                tourOrder = order.clone();
            }
            return;
        }
        for (int s = 0; s < order.length; s++) {
            boolean been = false;
            for (int i = 0; i < n; i++) {
                been |= order[i] == s;
            }
            if (!been) {
                order[n] = s;
                orders(order, n + 1, cost + ticks(here, t.spots.get(s)), t.spots.get(s));
            }
        }
    }

    private void orders() {
        tourOrder = null;
        tourBest = 0;
        orders(new int[t.spots.size()], 0, 0, now);
    }

    int tour() {
        orders();
        return tourBest;
    }

    int stop(int i) {
        orders();
        return isSpot(i) ? tourOrder[i] : -1;
    }

    int free(int j, boolean up) {
        if (!isJoint(j)) {
            return -1;
        }
        int[] p = now.clone();
        int n = 0;
        while (true) {
            p[j] += up ? 1 : -1;
            if (!within(j, p[j]) || measure(p) == 0) {
                return n;
            }
            n++;
        }
    }

    // ---- reach

    int reach(int pitch, int what) {
        if (pitch < 0 || pitch > 63 || what < 0 || what > 2) {
            return -1;
        }
        int least = Integer.MAX_VALUE;
        int most = Integer.MIN_VALUE;
        java.util.Set<List<Long>> pairs = new java.util.HashSet<>();
        for (int s = t.limit[2][0]; s <= t.limit[2][1]; s++) {
            for (int e = t.limit[3][0]; e <= t.limit[3][1]; e++) {
                for (int w = t.limit[4][0]; w <= t.limit[4][1]; w++) {
                    int[] p = {0, 0, s, e, w, 0};
                    if (same64(s + e + w, pitch)) {
                        least = Math.min(least, out(p));
                        most = Math.max(most, out(p));
                        pairs.add(List.of((long) out(p), placeOf(p)[2]));
                    }
                }
            }
        }
        return what == 2 ? pairs.size() : pairs.isEmpty() ? Integer.MIN_VALUE : what == 0 ? most : least;
    }

    int high(int least) {
        int best = Integer.MIN_VALUE;
        for (int s = t.limit[2][0]; s <= t.limit[2][1]; s++) {
            for (int e = t.limit[3][0]; e <= t.limit[3][1]; e++) {
                for (int w = t.limit[4][0]; w <= t.limit[4][1]; w++) {
                    int[] p = {0, 0, s, e, w, 0};
                    if (out(p) >= least) {
                        best = Math.max(best, (int) placeOf(p)[2]);
                    }
                }
            }
        }
        return best;
    }

    int chance(int seed, int n, int what) {
        if (seed < -1 || n < 1 || n > 20 || what < 0 || what > 3) {
            return -1;
        }
        long last = seed == -1 ? t.seed : seed;
        int[] sums = new int[4];
        for (int i = 0; i < n; i++) {
            int[] p = new int[6];
            for (int j = 0; j < 6; j++) {
                last = (last * 1103515245L + 12345L) % (1L << 31);
                p[j] = t.limit[j][0] + (int) (last / 65536 % (t.limit[j][1] - t.limit[j][0] + 1));
            }
            sums[3] += measure(p) == 0 ? 1 : 0;
            if (what == 3) {
                continue;
            }
            List<int[]> all = held(placeOf(p));
            if (all.size() > 600) {
                sums[0]++;
                continue;
            }
            sums[1] += all.size();
            for (int[] q : all) {
                sums[2] += Arrays.equals(p, q) ? 1 : 0;
            }
        }
        return sums[what];
    }

    // ---- undo

    int undo() {
        if (past.isEmpty()) {
            return -1;
        }
        Object[] was = past.remove(past.size() - 1);
        now = ((int[]) was[0]).clone();
        aim = ((long[]) was[1]).clone();
        return past.size();
    }

    boolean keep() {
        image = new Object[] {now.clone(), aim.clone()};
        return true;
    }

    boolean back() {
        if (image == null) {
            return false;
        }
        now = ((int[]) image[0]).clone();
        aim = ((long[]) image[1]).clone();
        past.clear();
        return true;
    }

    int count(int what) {
        int[] all = {t.link, t.hand, t.height, t.blend, t.spots.size(), t.way.size(), past.size(), tape.length};
        return what >= 0 && what < all.length ? all[what] : -1;
    }
}
