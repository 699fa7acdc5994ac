import java.util.Arrays;
import java.util.NoSuchElementException;

public final class SixJoints {
    public static final int NONE = -1;

    private static final int NO_WAY = -2;
    private static final int TOO_MANY = -3;
    private static final int NO_SIDE = -9;
    private static final int NO_NUMBER = -99;
    private static final int NO_BLEND = -9999;
    private static final int NO_HEIGHT = -2147483648;

    private static final int JOINTS = 6;
    private static final int RAIL = 0;
    private static final int TURN = 1;
    private static final int SHOULDER = 2;
    private static final int ELBOW = 3;
    private static final int WRIST = 4;
    private static final int ROLL = 5;

    private static final int X = 0;
    private static final int Y = 1;
    private static final int Z = 2;
    private static final int HEADING = 3;
    private static final int PITCH = 4;
    private static final int ROLLED = 5;
    private static final int UPWARDS = 16;
    private static final int DOWNWARDS = 48;

    private static final int MOST_BYTES = 700;
    private static final int MOST_SPOTS = 8;
    private static final int MOST_STOPS = 10;
    private static final int MOST_SOLUTIONS = 600;
    private static final int MOST_UNDONE = 20;
    private static final int MOST_BLEND = 9;
    private static final int MOST_DRAWN = 20;
    private static final int RAIL_UNIT = 1000000;
    private static final int FAR = 1000000;

    private static final int[] LOWEST = {0, -32, -32, -32, -32, -64};
    private static final int[] HIGHEST = {99, 31, 31, 31, 31, 63};
    private static final int[] COS = {
        1000, 995, 981, 957, 924, 882, 831, 773, 707, 634, 556, 471, 383, 290, 195, 98,
        0, -98, -195, -290, -383, -471, -556, -634, -707, -773, -831, -882, -924, -957, -981, -995,
        -1000, -995, -981, -957, -924, -882, -831, -773, -707, -634, -556, -471, -383, -290, -195, -98,
        0, 98, 195, 290, 383, 471, 556, 634, 707, 773, 831, 882, 924, 957, 981, 995};

    private final byte[] tape = new byte[MOST_BYTES];
    private int taped;
    private final Reader reader = new Reader();
    private Arm arm = new Arm();
    private Arm draft = new Arm();
    private long posture;
    private final int[] aimed = new int[JOINTS];
    private final Past past = new Past();
    private boolean imaged;
    private long imagePosture;
    private final int[] imageAim = new int[JOINTS];
    private final Solver solver = new Solver();
    private final Held held = new Held();
    private final Held drawn = new Held();
    private final int[] drawnPlace = new int[JOINTS];
    private final Planner planner = new Planner(solver);
    private final Rounds rounds = new Rounds();
    private final Span span = new Span();

    public SixJoints() {
        arm.forget();
        begin();
    }

    private void begin() {
        posture = arm.rest;
        arm.placeOf(posture, aimed);
        past.forget();
        imaged = false;
        held.known = false;
        planner.begin(arm);
        rounds.begin(arm);
    }

    public int feed(int a, int b, int c, int d, int e) {
        if (taped + 20 > MOST_BYTES) {
            return NONE;
        }
        putFour(a);
        putFour(b);
        putFour(c);
        putFour(d);
        putFour(e);
        return taped;
    }

    private void putFour(int four) {
        for (int shift = 24; shift >= 0 && taped < MOST_BYTES; shift -= 8) {
            tape[taped] = (byte) (four >>> shift);
            taped++;
        }
    }

    public int text(int n) {
        if (n < 0 || n > taped) {
            return NO_WAY;
        }
        taped = 0;
        reader.begin(tape, n, draft);
        int lines = 0;
        while (lines <= n && reader.startsLine()) {
            if (!reader.readLine()) {
                return NONE;
            }
            lines++;
        }
        Arm former = arm;
        arm = draft;
        draft = former;
        begin();
        return lines;
    }

    public int fault(int what) {
        if (what == 0) {
            return reader.wrong;
        }
        return what == 1 ? reader.wrongAt : NONE;
    }

    public int named(int letters) {
        return arm.spotNamed(letters);
    }

    public int joint(int joint, int what) throws IndexOutOfBoundsException, NoSuchElementException {
        if (noJoint(joint)) {
            throw new IndexOutOfBoundsException("no such joint");
        }
        switch (what) {
            case 0:
                return Posture.number(posture, joint);
            case 1:
                return arm.least[joint];
            case 2:
                return arm.greatest[joint];
            case 3:
                return arm.speed[joint];
            default:
                throw new NoSuchElementException("no such what");
        }
    }

    public int spot(int spot, int joint) {
        return noSpot(spot) || noJoint(joint) ? 0 : Posture.number(arm.postures[spot], joint);
    }

    public boolean set(int joint, int v) {
        if (noJoint(joint) || !arm.allows(joint, v)) {
            return false;
        }
        past.push(posture, aimed);
        posture = Posture.with(posture, joint, v);
        return true;
    }

    public long hand(int what) {
        return what == 6 ? arm.outOf(posture) : arm.placePart(posture, what);
    }

    public int now(int what) {
        return what == 3 ? arm.beyondLimits(posture) : sideOrMeasure(posture, what);
    }

    public long aim(int what) {
        return what < X || what > ROLLED ? 0 : aimed[what];
    }

    public boolean aimAt(int spot) {
        if (spot != NONE && noSpot(spot)) {
            return false;
        }
        past.push(posture, aimed);
        arm.placeOf(spot == NONE ? posture : arm.postures[spot], aimed);
        return true;
    }

    public boolean aimBy(int what, long v) {
        if (what < X || what > ROLLED) {
            return false;
        }
        long lowest = what < HEADING ? -1000000000L : 0L;
        long highest = what < HEADING ? 1000000000L : 63L;
        if (v < lowest || v > highest) {
            return false;
        }
        past.push(posture, aimed);
        aimed[what] = (int) v;
        return true;
    }

    public int solutions() {
        Held found = heldNow();
        return found.tooMany() ? TOO_MANY : found.total;
    }

    public int solution(int k, int joint) {
        Held found = heldNow();
        return noJoint(joint) || !found.has(k) ? NO_NUMBER : Posture.number(found.list[k], joint);
    }

    public int way(int k, int what) {
        Held found = heldNow();
        if (!found.has(k)) {
            return NO_SIDE;
        }
        long to = found.list[k];
        if (what == 3) {
            return arm.ticks(posture, to);
        }
        if (what == 4) {
            return Posture.kept(posture, to) ? 1 : 0;
        }
        return sideOrMeasure(to, what);
    }

    public int why() {
        return heldNow().reason();
    }

    // With TOO MANY, "there is none" that is KEPT may hold as well, and the document lets -2 go first.
    public int nearest(boolean steady) {
        Held found = heldNow();
        if (found.tooMany()) {
            return steady && !found.hasKept(posture) ? NO_WAY : TOO_MANY;
        }
        int best = NO_WAY;
        int fewest = FAR;
        for (int k = 0; k < found.total; k++) {
            long to = found.list[k];
            if (steady && !Posture.kept(posture, to)) {
                continue;
            }
            int ticks = arm.ticks(posture, to);
            if (ticks < fewest) {
                fewest = ticks;
                best = k;
            }
        }
        return best;
    }

    public int clearest() {
        Held found = heldNow();
        if (found.tooMany()) {
            return TOO_MANY;
        }
        int best = NO_WAY;
        int most = -1;
        for (int k = 0; k < found.total; k++) {
            int measure = Posture.measure(found.list[k]);
            if (measure > most) {
                most = measure;
                best = k;
            }
        }
        return best;
    }

    public boolean take(int k) {
        Held found = heldNow();
        if (!found.has(k)) {
            return false;
        }
        past.push(posture, aimed);
        posture = found.list[k];
        return true;
    }

    public int step(int spot, int t, int joint) {
        if (noSpot(spot) || noJoint(joint) || t < 0) {
            return NO_NUMBER;
        }
        long to = arm.postures[spot];
        int ticks = arm.ticks(posture, to);
        return t > ticks ? NO_NUMBER : Posture.numberAlong(posture, to, joint, t, ticks);
    }

    public int meets(int spot) {
        if (noSpot(spot)) {
            return NONE;
        }
        long to = arm.postures[spot];
        int ticks = arm.ticks(posture, to);
        for (int t = 0; t <= ticks; t++) {
            if (Posture.measure(Posture.along(posture, to, t, ticks)) == 0) {
                return t;
            }
        }
        return NO_WAY;
    }

    public int route(boolean steady) {
        return planner.plan(posture, steady).ticks;
    }

    public int by(boolean steady, int i) {
        if (noStop(i)) {
            return NONE;
        }
        Route route = planner.plan(posture, steady);
        return route.ticks < 0 ? route.ticks : route.picks[i];
    }

    public int at(boolean steady, int t, int joint) {
        if (noJoint(joint)) {
            return NO_NUMBER;
        }
        Route route = planner.plan(posture, steady);
        return route.ticks < 0 || t < 0 || t > route.ticks ? NO_NUMBER : route.numberAt(t, joint);
    }

    public int blended(boolean steady, int t, int joint) {
        if (noJoint(joint)) {
            return NO_BLEND;
        }
        Route route = planner.plan(posture, steady);
        if (route.ticks < 0 || t < -arm.blend || t > route.ticks + arm.blend) {
            return NO_BLEND;
        }
        return route.sumAround(t, joint, arm.blend);
    }

    public int fastest(boolean steady, int joint, boolean smooth) {
        if (noJoint(joint)) {
            return NONE;
        }
        Route route = planner.plan(posture, steady);
        return route.ticks < 0 ? route.ticks : route.greatestStep(joint, smooth ? arm.blend : 0);
    }

    public int misses(boolean steady, int i, int joint) {
        if (noStop(i) || noJoint(joint)) {
            return NONE;
        }
        Route route = planner.plan(posture, steady);
        return route.ticks < 0 ? route.ticks : route.offCorner(i, joint, arm.blend);
    }

    public int roundest(boolean steady, int m) {
        if (m < 0 || m > 99) {
            return NONE;
        }
        Route route = planner.plan(posture, steady);
        return route.ticks < 0 ? route.ticks : route.greatestBlend(arm.stops, m);
    }

    public int changes(boolean steady, int what) {
        if (what < 0 || what > 2) {
            return NONE;
        }
        Route route = planner.plan(posture, steady);
        if (route.ticks < 0) {
            return route.ticks;
        }
        return what == 2 ? route.rollTurns() : route.sideChanges(what);
    }

    public long travel(boolean steady) {
        Route route = planner.plan(posture, steady);
        return route.ticks < 0 ? route.ticks : route.handPath(arm);
    }

    public int tour() {
        return rounds.order(posture);
    }

    public int stop(int i) {
        if (noSpot(i)) {
            return NONE;
        }
        rounds.order(posture);
        return rounds.visited[i];
    }

    public int free(int joint, boolean up) {
        if (noJoint(joint)) {
            return NONE;
        }
        int v = Posture.number(posture, joint);
        int by = 0;
        for (int d = 1; d <= 128; d++) {
            int tried = up ? v + d : v - d;
            if (!arm.allows(joint, tried) || Posture.measure(Posture.with(posture, joint, tried)) == 0) {
                break;
            }
            by = d;
        }
        return by;
    }

    public int slow(boolean steady) {
        Route route = planner.plan(posture, steady);
        return route.ticks < 0 ? route.ticks : route.slowTicks();
    }

    public int clear(boolean steady) {
        Route route = planner.plan(posture, steady);
        return route.ticks < 0 ? route.ticks : route.leastMeasure();
    }

    public int reach(int pitch, int what) {
        if (pitch < 0 || pitch > 63 || what < 0 || what > 2) {
            return NONE;
        }
        return what == 2 ? span.unlikePairs(arm, pitch) : span.outermost(arm, pitch, what == 0);
    }

    public int high(int out) {
        return span.highest(arm, out);
    }

    public int chance(int seed, int n, int what) {
        if (seed < -1 || n < 1 || n > MOST_DRAWN || what < 0 || what > 3) {
            return NONE;
        }
        long last = seed == -1 ? arm.seed : seed;
        int sum = 0;
        for (int i = 0; i < n; i++) {
            long by = 0;
            for (int joint = 0; joint < JOINTS; joint++) {
                last = (last * 1103515245L + 12345L) & 2147483647L;
                int numbers = arm.greatest[joint] - arm.least[joint] + 1;
                int draw = numbers < 1 ? 0 : (int) (last / 65536L % numbers);
                by = Posture.with(by, joint, arm.least[joint] + draw);
            }
            sum += chanceOf(by, what);
        }
        return sum;
    }

    private int chanceOf(long by, int what) {
        if (what == 3) {
            return Posture.measure(by) == 0 ? 1 : 0;
        }
        arm.placeOf(by, drawnPlace);
        solver.solve(arm, drawnPlace, drawn);
        if (what == 0) {
            return drawn.tooMany() ? 1 : 0;
        }
        if (drawn.tooMany()) {
            return 0;
        }
        return what == 1 ? drawn.total : drawn.holds(by) ? 1 : 0;
    }

    public int undo() {
        if (past.size == 0) {
            return NONE;
        }
        posture = past.pop(aimed);
        return past.size;
    }

    public boolean keep() {
        imaged = true;
        imagePosture = posture;
        System.arraycopy(aimed, 0, imageAim, 0, JOINTS);
        return true;
    }

    public boolean back() {
        if (!imaged) {
            return false;
        }
        posture = imagePosture;
        System.arraycopy(imageAim, 0, aimed, 0, JOINTS);
        past.forget();
        return true;
    }

    public int count(int what) {
        switch (what) {
            case 0:
                return arm.link;
            case 1:
                return arm.hand;
            case 2:
                return arm.height;
            case 3:
                return arm.blend;
            case 4:
                return arm.spots;
            case 5:
                return arm.stops;
            case 6:
                return past.size;
            case 7:
                return taped;
            default:
                return NONE;
        }
    }

    private static boolean noJoint(int joint) {
        return joint < 0 || joint >= JOINTS;
    }

    private boolean noSpot(int spot) {
        return spot < 0 || spot >= arm.spots;
    }

    private boolean noStop(int i) {
        return i < 0 || i >= arm.stops;
    }

    private static int sideOrMeasure(long of, int what) {
        switch (what) {
            case 0:
                return Posture.side(of);
            case 1:
                return Posture.bend(of);
            case 2:
                return Posture.measure(of);
            default:
                return NO_SIDE;
        }
    }

    private Held heldNow() {
        if (!held.isOf(aimed)) {
            solver.solve(arm, aimed, held);
        }
        return held;
    }

    private static int cos(int k) {
        return COS[k & 63];
    }

    private static int sin(int k) {
        return COS[(k - 16) & 63];
    }

    private static int signOf(int v) {
        return v > 0 ? 1 : v < 0 ? -1 : 0;
    }

    private static int within32(int k) {
        return ((k + 32) & 63) - 32;
    }

    /**
     * A POSTURE is one long, eight bits a JOINT with JOINT 0 highest, each 64 more than its number:
     * so none is ever made as an object, and their order is that of SOLUTIONS.
     */
    private static final class Posture {
        static int number(long posture, int joint) {
            return (int) ((posture >>> (40 - 8 * joint)) & 255L) - 64;
        }

        static long with(long posture, int joint, int v) {
            int shift = 40 - 8 * joint;
            return (posture & ~(255L << shift)) | ((long) ((v + 64) & 255) << shift);
        }

        static int side(long posture) {
            return signOf(sin(number(posture, TURN)));
        }

        static int bend(long posture) {
            return signOf(sin(number(posture, ELBOW)));
        }

        static int measure(long posture) {
            return Math.abs(sin(number(posture, TURN)) * sin(number(posture, ELBOW))) / 1000;
        }

        // No SINE but 0 is below 98, so a MEASURE is 0 just where SIDE or BEND is.
        static boolean kept(long a, long b) {
            int kind = kind(a);
            return kind != 0 && kind == kind(b);
        }

        /**
         * One bit for each pair of SIDE and BEND; 0 if SINGULAR. A SINE is 0 by every 32, above 0 by 1 .. 31,
         * and the 64 that a JOINT has more makes no difference: the numbers' own bits tell.
         */
        static int kind(long posture) {
            int turn = (int) (posture >>> 32) & 63;
            int elbow = (int) (posture >>> 16) & 63;
            return (turn & 31) == 0 || (elbow & 31) == 0 ? 0 : 1 << (2 * (turn >>> 5) + (elbow >>> 5));
        }

        static int numberAlong(long from, long to, int joint, int t, int ticks) {
            int begun = number(from, joint);
            return ticks < 1 ? begun : begun + (number(to, joint) - begun) * t / ticks;
        }

        static long along(long from, long to, int t, int ticks) {
            long then = 0;
            for (int joint = 0; joint < JOINTS; joint++) {
                then = with(then, joint, numberAlong(from, to, joint, t, ticks));
            }
            return then;
        }
    }

    /** What a TEXT tells. */
    private static final class Arm {
        int link;
        int hand;
        int height;
        int blend;
        int seed;
        long rest;
        final int[] least = new int[JOINTS];
        final int[] greatest = new int[JOINTS];
        final int[] speed = new int[JOINTS];
        int spots;
        final int[] names = new int[MOST_SPOTS];
        final long[] postures = new long[MOST_SPOTS];
        int stops;
        final int[] way = new int[MOST_STOPS];

        void forget() {
            link = 9;
            hand = 4;
            height = 10;
            blend = 2;
            seed = 0;
            rest = 0;
            for (int joint = 0; joint < JOINTS; joint++) {
                least[joint] = LOWEST[joint];
                greatest[joint] = HIGHEST[joint];
                speed[joint] = 4;
                rest = Posture.with(rest, joint, 0);
            }
            spots = 0;
            stops = 0;
        }

        int spotNamed(int letters) {
            for (int spot = 0; spot < spots; spot++) {
                if (names[spot] == letters) {
                    return spot;
                }
            }
            return NONE;
        }

        boolean allows(int joint, int v) {
            return v >= least[joint] && v <= greatest[joint];
        }

        int beyondLimits(long posture) {
            int beyond = 0;
            for (int joint = 0; joint < JOINTS; joint++) {
                if (!allows(joint, Posture.number(posture, joint))) {
                    beyond++;
                }
            }
            return beyond;
        }

        int outOf(long posture) {
            int a = Posture.number(posture, SHOULDER);
            int b = a + Posture.number(posture, ELBOW);
            return link * (cos(a) + cos(b)) + hand * cos(b + Posture.number(posture, WRIST));
        }

        int riseOf(long posture) {
            int a = Posture.number(posture, SHOULDER);
            int b = a + Posture.number(posture, ELBOW);
            return 1000 * height + link * (sin(a) + sin(b)) + hand * sin(b + Posture.number(posture, WRIST));
        }

        int placePart(long posture, int what) {
            int turn = Posture.number(posture, TURN);
            switch (what) {
                case X:
                    return RAIL_UNIT * Posture.number(posture, RAIL) + outOf(posture) * cos(turn);
                case Y:
                    return outOf(posture) * sin(turn);
                case Z:
                    return riseOf(posture);
                case HEADING:
                    return turn & 63;
                case PITCH:
                    return (Posture.number(posture, SHOULDER) + Posture.number(posture, ELBOW)
                            + Posture.number(posture, WRIST)) & 63;
                case ROLLED:
                    return Posture.number(posture, ROLL) & 63;
                default:
                    return 0;
            }
        }

        void placeOf(long posture, int[] into) {
            for (int what = 0; what < JOINTS && what < into.length; what++) {
                into[what] = placePart(posture, what);
            }
        }

        int ticks(long from, long to) {
            return ticksBelow(from, to, FAR);
        }

        /** TICKS of a MOVE; any number of the bound or more, once they are seen to come to that. */
        int ticksBelow(long from, long to, int bound) {
            int most = 0;
            for (int joint = 0; joint < JOINTS && most < bound; joint++) {
                int shift = 40 - 8 * joint;
                int way = Math.abs((int) (from >>> shift & 255L) - (int) (to >>> shift & 255L));
                int pace = speed[joint];
                if (pace > 0 && way > most * pace) {
                    most = (way + pace - 1) / pace;
                }
            }
            return most;
        }
    }

    /** Reads a TEXT into an Arm, up to its first FAULT. */
    private static final class Reader {
        private static final int END = 0;
        private static final int WORD = 1;
        private static final int DIGITS = 2;
        private static final int MINUS_DIGITS = 3;
        private static final int SEMICOLON = 4;
        private static final int BAD = 5;

        private static final int LINK = 0;
        private static final int HAND = 1;
        private static final int HEIGHT = 2;
        private static final int BLEND = 3;
        private static final int REST = 5;
        private static final int LIMIT = 6;
        private static final int SPEED = 7;
        private static final int SPOT = 8;
        // link, hand, height, blend, seed, rest, limit, speed, spot, go: as named() takes letters, so that
        // a word is one number and no text need be made of it.
        private static final int[] WORDS = {412560384, 269946880, 273980692, 79870080, 642945024,
            609865728, 412526208, 654480512, 654823424, 250609664};
        private static final int LIMITS_TOLD = 10;
        private static final int SPEEDS_TOLD = 16;
        // Beyond every number that a TEXT may hold, and ten times it is an int still.
        private static final int HUGE = 1000000;

        int wrong;
        int wrongAt = NONE;
        private byte[] bytes;
        private int length;
        private int next;
        private int kind;
        private int start;
        private int value;
        private int told;
        private Arm arm;

        void begin(byte[] from, int n, Arm into) {
            bytes = from;
            length = Math.min(n, from.length);
            next = 0;
            told = 0;
            wrong = 0;
            wrongAt = NONE;
            arm = into;
            arm.forget();
        }

        boolean startsLine() {
            advance();
            return kind != END;
        }

        private boolean refuse(int why) {
            wrong = why;
            wrongAt = start;
            return false;
        }

        boolean readLine() {
            int word = kind == WORD ? languageWord() : NONE;
            if (word == NONE) {
                return refuse(1);
            }
            boolean fine;
            if (word <= REST) {
                fine = tellOnce(word) && (word == REST ? readRest() : readSingle(word));
            } else if (word == LIMIT) {
                fine = readLimit();
            } else if (word == SPEED) {
                fine = readSpeed();
            } else {
                fine = word == SPOT ? readSpot() : readGo();
            }
            if (!fine) {
                return false;
            }
            advance();
            return kind == SEMICOLON || refuse(1);
        }

        private boolean tellOnce(int bit) {
            if ((told >>> bit & 1) != 0) {
                return refuse(3);
            }
            told |= 1 << bit;
            return true;
        }

        private boolean readSingle(int word) {
            int least = word <= HEIGHT ? 1 : 0;
            int greatest = word <= HEIGHT ? 99 : word == BLEND ? MOST_BLEND : 99999;
            if (!readNumber(least, greatest, false)) {
                return false;
            }
            switch (word) {
                case LINK:
                    arm.link = value;
                    break;
                case HAND:
                    arm.hand = value;
                    break;
                case HEIGHT:
                    arm.height = value;
                    break;
                case BLEND:
                    arm.blend = value;
                    break;
                default:
                    arm.seed = value;
                    break;
            }
            return true;
        }

        private boolean readLimit() {
            if (!readNumber(0, JOINTS - 1, false) || !tellOnce(LIMITS_TOLD + value)) {
                return false;
            }
            int joint = value;
            if (!readNumber(LOWEST[joint], HIGHEST[joint], true)) {
                return false;
            }
            arm.least[joint] = value;
            if (!readNumber(arm.least[joint], HIGHEST[joint], true)) {
                return false;
            }
            arm.greatest[joint] = value;
            return true;
        }

        private boolean readSpeed() {
            if (!readNumber(0, JOINTS - 1, false) || !tellOnce(SPEEDS_TOLD + value)) {
                return false;
            }
            int joint = value;
            if (!readNumber(1, 32, false)) {
                return false;
            }
            arm.speed[joint] = value;
            return true;
        }

        private boolean readRest() {
            for (int joint = 0; joint < JOINTS; joint++) {
                if (!readNumber(LOWEST[joint], HIGHEST[joint], true)) {
                    return false;
                }
                arm.rest = Posture.with(arm.rest, joint, value);
            }
            return true;
        }

        private boolean readSpot() {
            int spot = arm.spots;
            if (spot >= MOST_SPOTS) {
                return refuse(2);
            }
            if (!readName()) {
                return false;
            }
            if (arm.spotNamed(value) != NONE) {
                return refuse(3);
            }
            arm.names[spot] = value;
            long posture = 0;
            for (int joint = 0; joint < JOINTS; joint++) {
                if (!readNumber(LOWEST[joint], HIGHEST[joint], true)) {
                    return false;
                }
                posture = Posture.with(posture, joint, value);
            }
            arm.postures[spot] = posture;
            arm.spots = spot + 1;
            return true;
        }

        private boolean readGo() {
            int stop = arm.stops;
            if (stop >= MOST_STOPS) {
                return refuse(2);
            }
            if (!readName()) {
                return false;
            }
            int spot = arm.spotNamed(value);
            if (spot == NONE) {
                return refuse(4);
            }
            arm.way[stop] = spot;
            arm.stops = stop + 1;
            return true;
        }

        private boolean readName() {
            advance();
            return kind == WORD && languageWord() == NONE || refuse(1);
        }

        private boolean readNumber(int least, int greatest, boolean signed) {
            advance();
            if (kind != DIGITS && !(signed && kind == MINUS_DIGITS)) {
                return refuse(1);
            }
            return value >= least && value <= greatest || refuse(2);
        }

        private int languageWord() {
            for (int word = 0; word < WORDS.length; word++) {
                if (WORDS[word] == value) {
                    return word;
                }
            }
            return NONE;
        }

        private boolean hasFromTo(int place, char least, char greatest) {
            return place < length && bytes[place] >= least && bytes[place] <= greatest;
        }

        private void advance() {
            while (next < length && (bytes[next] == ' ' || bytes[next] == '\n')) {
                next++;
            }
            start = next;
            if (next >= length) {
                kind = END;
            } else if (hasFromTo(next, 'a', 'z')) {
                takeWord();
            } else if (hasFromTo(next, '0', '9')) {
                kind = DIGITS;
                value = takeDigits();
            } else if (bytes[next] == '-' && hasFromTo(next + 1, '0', '9')) {
                next++;
                kind = MINUS_DIGITS;
                value = -takeDigits();
            } else {
                kind = bytes[next] == ';' ? SEMICOLON : BAD;
                next++;
            }
        }

        private void takeWord() {
            int letters = 0;
            value = 0;
            while (next < length && hasFromTo(next, 'a', 'z')) {
                if (letters < 6) {
                    value |= (bytes[next] - 'a' + 1) << (25 - 5 * letters);
                }
                letters++;
                next++;
            }
            kind = letters > 6 ? BAD : WORD;
        }

        private int takeDigits() {
            int number = 0;
            while (next < length && hasFromTo(next, '0', '9')) {
                number = Math.min(HUGE, number * 10 + bytes[next] - '0');
                next++;
            }
            return number;
        }
    }

    /** The SOLUTIONS of a PLACE, and WHY there are none. */
    private static final class Held {
        boolean known;
        int total;
        long[] list = new long[16];
        private final int[] place = new int[JOINTS];
        private int kinds;
        private int farthest;

        void begin(int[] of) {
            System.arraycopy(of, 0, place, 0, JOINTS);
            known = true;
            total = 0;
            kinds = 0;
            farthest = NONE;
        }

        boolean isOf(int[] other) {
            for (int what = 0; what < JOINTS; what++) {
                if (place[what] != other[what]) {
                    return false;
                }
            }
            return known;
        }

        // Beyond what is listed they are counted still: whether one of them is KEPT is asked as well.
        void add(long posture, int kind) {
            kinds |= kind;
            if (total < MOST_SOLUTIONS) {
                if (total >= list.length) {
                    list = Arrays.copyOf(list, Math.min(MOST_SOLUTIONS, 2 * list.length));
                }
                list[total] = posture;
            }
            total++;
        }

        /** A POSTURE was ALIKE, and this JOINT is the first one beyond its limits. */
        void failedBy(int joint) {
            farthest = Math.max(farthest, joint);
        }

        boolean tooMany() {
            return total > MOST_SOLUTIONS;
        }

        boolean has(int k) {
            return k >= 0 && k < total && !tooMany();
        }

        boolean hasKept(long from) {
            return (kinds & Posture.kind(from)) != 0;
        }

        boolean holds(long posture) {
            for (int k = 0; k < total && k < list.length; k++) {
                if (list[k] == posture) {
                    return true;
                }
            }
            return false;
        }

        int reason() {
            return total > 0 ? 0 : farthest + 2;
        }
    }

    /** Finds SOLUTIONS: by each TURN that fits, the two links' angles that come to the height and way out. */
    private static final class Solver {
        private static final int NO_ANGLE = 99;
        private static final int MOST_FOLDS = 128;

        private Arm arm;
        private Held into;
        private final int[] target = new int[JOINTS];
        private int folds;
        private final int[] shoulders = new int[MOST_FOLDS];
        private final int[] elbows = new int[MOST_FOLDS];
        private final int[] wrists = new int[MOST_FOLDS];
        private final int[] outs = new int[MOST_FOLDS];
        private final int[] behind = new int[101];
        private long[] sorted = new long[16];

        void solve(Arm by, int[] place, Held held) {
            arm = by;
            into = held;
            into.begin(place);
            System.arraycopy(place, 0, target, 0, JOINTS);
            int foldedFor = NONE;
            for (int turn = -32; turn <= 31; turn++) {
                int pitch = pitchBy(turn);
                if (pitch == NONE || !sidewaysFits(turn)) {
                    continue;
                }
                if (pitch != foldedFor) {
                    fold(pitch);
                    foldedFor = pitch;
                }
                solveByTurn(turn);
            }
            if (!into.tooMany()) {
                sortByRail();
            }
        }

        private int pitchBy(int turn) {
            int pitch = target[PITCH];
            if (pitch == UPWARDS || pitch == DOWNWARDS) {
                return pitch;
            }
            int off = (turn - target[HEADING]) & 63;
            if (off == 0) {
                return pitch;
            }
            return off == 32 ? (32 - pitch) & 63 : NONE;
        }

        // By PITCH 16 ROLL is less by what TURN is more; else it is more by as much: by PITCH 48 by any number,
        // otherwise by none or 32.
        private int rollBy(int turn) {
            int off = turn - target[HEADING];
            return (target[PITCH] == UPWARDS ? target[ROLLED] - off : target[ROLLED] + off) & 63;
        }

        private boolean sidewaysFits(int turn) {
            int sine = sin(turn);
            return sine == 0 ? target[Y] == 0 : target[Y] % sine == 0;
        }

        /** Lists every SHOULDER, ELBOW, WRIST by which z is as wanted, in order, with the OUT they have. */
        private void fold(int pitch) {
            folds = 0;
            int rise = target[Z] - 1000 * arm.height - arm.hand * sin(pitch);
            if (arm.link < 1 || rise % arm.link != 0) {
                return;
            }
            int sines = rise / arm.link;
            for (int a = -32; a <= 31; a++) {
                int angle = angleOf(sines - sin(a));
                if (angle == NO_ANGLE) {
                    continue;
                }
                int one = within32(angle - a);
                int other = within32(32 - angle - a);
                addFold(pitch, a, Math.min(one, other));
                if (one != other) {
                    addFold(pitch, a, Math.max(one, other));
                }
            }
        }

        private void addFold(int pitch, int a, int elbow) {
            if (folds >= MOST_FOLDS) {
                return;
            }
            int b = a + elbow;
            shoulders[folds] = a;
            elbows[folds] = elbow;
            wrists[folds] = within32(pitch - b);
            outs[folds] = arm.link * (cos(a) + cos(b)) + arm.hand * cos(pitch);
            folds++;
        }

        /** The angle from -16 to 16 of a SINE; they grow with it, so that halving finds it. */
        private static int angleOf(int sine) {
            int low = -16;
            int high = 16;
            for (int halving = 0; halving < 8 && low < high; halving++) {
                int middle = Math.floorDiv(low + high, 2);
                if (sin(middle) < sine) {
                    low = middle + 1;
                } else {
                    high = middle;
                }
            }
            return sin(low) == sine ? low : NO_ANGLE;
        }

        private void solveByTurn(int turn) {
            int sine = sin(turn);
            int cosine = cos(turn);
            int roll = rollBy(turn);
            for (int fold = 0; fold < folds; fold++) {
                if (outs[fold] * sine != target[Y]) {
                    continue;
                }
                int along = target[X] - outs[fold] * cosine;
                if (along % RAIL_UNIT == 0) {
                    offer(along / RAIL_UNIT, turn, fold, roll);
                }
            }
        }

        private void offer(int rail, int turn, int fold, int roll) {
            if (!arm.allows(RAIL, rail)) {
                into.failedBy(RAIL);
            } else if (!arm.allows(TURN, turn)) {
                into.failedBy(TURN);
            } else if (!arm.allows(SHOULDER, shoulders[fold])) {
                into.failedBy(SHOULDER);
            } else if (!arm.allows(ELBOW, elbows[fold])) {
                into.failedBy(ELBOW);
            } else if (!arm.allows(WRIST, wrists[fold])) {
                into.failedBy(WRIST);
            } else {
                long posture = Posture.with(0, RAIL, rail);
                posture = Posture.with(posture, TURN, turn);
                posture = Posture.with(posture, SHOULDER, shoulders[fold]);
                posture = Posture.with(posture, ELBOW, elbows[fold]);
                posture = Posture.with(posture, WRIST, wrists[fold]);
                for (int full = roll - 64; full <= roll; full += 64) {
                    if (arm.allows(ROLL, full)) {
                        into.add(Posture.with(posture, ROLL, full), Posture.kind(posture));
                    } else {
                        into.failedBy(ROLL);
                    }
                }
            }
        }

        // They come in the order of TURN and what is behind it: RAIL alone is left to sort by.
        private void sortByRail() {
            int total = into.total;
            if (total > sorted.length) {
                sorted = new long[into.list.length];
            }
            Arrays.fill(behind, 0);
            for (int k = 0; k < total; k++) {
                behind[Posture.number(into.list[k], RAIL) + 1]++;
            }
            for (int rail = 1; rail <= 100; rail++) {
                behind[rail] += behind[rail - 1];
            }
            for (int k = 0; k < total; k++) {
                int rail = Posture.number(into.list[k], RAIL);
                sorted[behind[rail]] = into.list[k];
                behind[rail]++;
            }
            System.arraycopy(sorted, 0, into.list, 0, total);
        }
    }

    /** A ROUTE from one POSTURE: its TICKS or why there is none, and the POSTURE at each tick. */
    private static final class Route {
        boolean known;
        long from;
        int ticks;
        final int[] picks = new int[MOST_STOPS];
        final int[] corners = new int[MOST_STOPS];
        private long[] steps = new long[16];

        void begin(long posture, int answer) {
            known = true;
            from = posture;
            ticks = answer;
            steps[0] = posture;
        }

        /** Goes on from where it ends by one MOVE, to the spot of THE WAY that is number i. */
        void goTo(int i, int pick, long to, int along) {
            picks[i] = pick;
            long since = steps[ticks];
            int need = ticks + along + 1;
            if (need > steps.length) {
                steps = Arrays.copyOf(steps, Math.max(need, 2 * steps.length));
            }
            for (int t = 1; t <= along; t++) {
                steps[ticks + t] = Posture.along(since, to, t, along);
            }
            ticks += along;
            corners[i] = ticks;
        }

        int numberAt(int t, int joint) {
            int then = t < 0 ? 0 : t > ticks ? ticks : t;
            return Posture.number(steps[then], joint);
        }

        int sumAround(int t, int joint, int blend) {
            int sum = 0;
            for (int d = -blend; d <= blend; d++) {
                sum += numberAt(t + d, joint);
            }
            return sum;
        }

        // Two sums next to one another differ by the number that comes in less the one that drops out.
        int greatestStep(int joint, int blend) {
            int most = 0;
            for (int t = -blend; t < ticks + blend; t++) {
                int change = numberAt(t + 1 + blend, joint) - numberAt(t - blend, joint);
                most = Math.max(most, Math.abs(change));
            }
            return most;
        }

        int offCorner(int i, int joint, int blend) {
            int t = corners[i];
            return Math.abs(sumAround(t, joint, blend) - numberAt(t, joint) * (2 * blend + 1));
        }

        int greatestBlend(int stops, int m) {
            int blend = MOST_BLEND;
            while (blend > 0 && !isNearCorners(stops, m, blend)) {
                blend--;
            }
            return blend;
        }

        private boolean isNearCorners(int stops, int m, int blend) {
            for (int i = 0; i < stops && i < MOST_STOPS; i++) {
                for (int joint = 0; joint < JOINTS; joint++) {
                    if (offCorner(i, joint, blend) > m * (2 * blend + 1)) {
                        return false;
                    }
                }
            }
            return true;
        }

        int sideChanges(int what) {
            int changed = 0;
            int before = sideOrMeasure(steps[0], what);
            for (int t = 1; t <= ticks; t++) {
                int then = sideOrMeasure(steps[t], what);
                if (then != before) {
                    changed++;
                }
                before = then;
            }
            return changed;
        }

        int rollTurns() {
            int turned = 0;
            int before = 0;
            for (int t = 1; t <= ticks; t++) {
                int sign = signOf(numberAt(t, ROLL) - numberAt(t - 1, ROLL));
                if (sign != 0) {
                    if (before != 0 && sign != before) {
                        turned++;
                    }
                    before = sign;
                }
            }
            return turned;
        }

        long handPath(Arm arm) {
            long path = 0;
            int x = arm.placePart(from, X);
            int y = arm.placePart(from, Y);
            int z = arm.placePart(from, Z);
            for (int t = 1; t <= ticks; t++) {
                int nextX = arm.placePart(steps[t], X);
                int nextY = arm.placePart(steps[t], Y);
                int nextZ = arm.placePart(steps[t], Z);
                path += (long) Math.abs(nextX - x) + Math.abs(nextY - y) + 1000L * Math.abs(nextZ - z);
                x = nextX;
                y = nextY;
                z = nextZ;
            }
            return path;
        }

        int slowTicks() {
            int sum = 0;
            for (int t = 1; t <= ticks; t++) {
                int measure = Posture.measure(steps[t]);
                sum += measure < 50 ? 4 : measure < 200 ? 2 : 1;
            }
            return sum;
        }

        int leastMeasure() {
            int least = Posture.measure(steps[0]);
            for (int t = 1; t <= ticks; t++) {
                least = Math.min(least, Posture.measure(steps[t]));
            }
            return least;
        }
    }

    /**
     * Finds ROUTES. What is left to go from each SOLUTION of each stop on depends on the TEXT alone and
     * is kept, so that another NOW costs one look at the first stop's SOLUTIONS.
     */
    private static final class Planner {
        private final Solver solver;
        private Arm arm;
        private final int[] place = new int[JOINTS];
        private final Held[] held = new Held[MOST_SPOTS];
        private final Route plain = new Route();
        private final Route steadily = new Route();
        private boolean weighed;
        private int obstacle;
        private final int[] first = new int[MOST_STOPS];
        private int all;
        private boolean plainReady;
        private boolean steadyReady;
        private int[] plainLeft = new int[0];
        private int[] steadyLeft = new int[0];
        private int fewest;

        Planner(Solver by) {
            solver = by;
            for (int spot = 0; spot < MOST_SPOTS; spot++) {
                held[spot] = new Held();
            }
        }

        void begin(Arm of) {
            arm = of;
            plain.known = false;
            steadily.known = false;
            weighed = false;
            plainReady = false;
            steadyReady = false;
        }

        Route plan(long now, boolean steady) {
            Route route = steady ? steadily : plain;
            if (!route.known || route.from != now) {
                lookUp();
                route.begin(now, obstacle);
                if (obstacle == 0 && arm.stops > 0) {
                    choose(route, steady);
                }
            }
            return route;
        }

        /** Solves every spot of THE WAY once a TEXT, and sees whether one has none or TOO MANY. */
        private void lookUp() {
            if (weighed) {
                return;
            }
            weighed = true;
            boolean none = false;
            boolean tooMany = false;
            int solved = 0;
            all = 0;
            for (int i = 0; i < arm.stops; i++) {
                int spot = arm.way[i];
                Held of = held[spot];
                if ((solved >>> spot & 1) == 0) {
                    arm.placeOf(arm.postures[spot], place);
                    solver.solve(arm, place, of);
                    solved |= 1 << spot;
                }
                none = none || of.total == 0;
                tooMany = tooMany || of.tooMany();
                first[i] = all;
                all += Math.min(of.total, MOST_SOLUTIONS);
            }
            obstacle = none ? NO_WAY : tooMany ? TOO_MANY : 0;
        }

        private void choose(Route route, boolean steady) {
            int[] left = leftFrom(steady);
            long from = route.from;
            for (int i = 0; i < arm.stops; i++) {
                int pick = pickNext(from, i, left, steady);
                if (pick == NONE) {
                    route.ticks = NO_WAY;
                    return;
                }
                long to = held[arm.way[i]].list[pick];
                route.goTo(i, pick, to, arm.ticks(from, to));
                from = to;
            }
        }

        private int[] leftFrom(boolean steady) {
            int[] left = steady ? steadyLeft : plainLeft;
            if (steady ? steadyReady : plainReady) {
                return left;
            }
            if (all > left.length) {
                left = new int[Math.max(all, 2 * left.length)];
            }
            fillLeft(left, steady);
            if (steady) {
                steadyLeft = left;
                steadyReady = true;
            } else {
                plainLeft = left;
                plainReady = true;
            }
            return left;
        }

        private void fillLeft(int[] left, boolean steady) {
            Arrays.fill(left, 0);
            for (int i = arm.stops - 2; i >= 0; i--) {
                Held of = held[arm.way[i]];
                for (int k = 0; k < of.total; k++) {
                    pickNext(of.list[k], i + 1, left, steady);
                    left[first[i] + k] = fewest;
                }
            }
        }

        /** The first SOLUTION of stop i by which all TICKS from here on are fewest (as told by a field). */
        private int pickNext(long from, int i, int[] left, boolean steady) {
            Held to = held[arm.way[i]];
            int kind = Posture.kind(from);
            int pick = NONE;
            fewest = FAR;
            if (steady && kind == 0) {
                return NONE;
            }
            for (int k = 0; k < to.total; k++) {
                int behind = left[first[i] + k];
                if (behind >= fewest || steady && Posture.kind(to.list[k]) != kind) {
                    continue;
                }
                int sum = behind + arm.ticksBelow(from, to.list[k], fewest - behind);
                if (sum < fewest) {
                    fewest = sum;
                    pick = k;
                }
            }
            return pick;
        }
    }

    /** The order of all spots that takes the fewest TICKS, by what is left once a set of them is behind. */
    private static final class Rounds {
        final int[] visited = new int[MOST_SPOTS];
        private Arm arm;
        private final int[] gaps = new int[MOST_SPOTS * MOST_SPOTS];
        private int[] left = new int[0];
        private boolean filled;
        private boolean known;
        private long from;
        private int fewest;

        void begin(Arm of) {
            arm = of;
            filled = false;
            known = false;
        }

        int order(long now) {
            if (!known || from != now) {
                fill();
                known = true;
                from = now;
                fewest = 0;
                int behind = 0;
                long here = now;
                for (int i = 0; i < arm.spots; i++) {
                    int next = firstOfFewest(here, behind);
                    fewest += arm.ticks(here, arm.postures[next]);
                    visited[i] = next;
                    behind |= 1 << next;
                    here = arm.postures[next];
                }
            }
            return fewest;
        }

        private int firstOfFewest(long here, int behind) {
            int best = FAR;
            int next = 0;
            for (int spot = 0; spot < arm.spots; spot++) {
                if ((behind >>> spot & 1) != 0) {
                    continue;
                }
                int sum = arm.ticks(here, arm.postures[spot]) + left[(behind | 1 << spot) * MOST_SPOTS + spot];
                if (sum < best) {
                    best = sum;
                    next = spot;
                }
            }
            return next;
        }

        private void fill() {
            if (filled) {
                return;
            }
            filled = true;
            int sets = 1 << arm.spots;
            if (left.length < sets * MOST_SPOTS) {
                left = new int[sets * MOST_SPOTS];
            }
            for (int a = 0; a < arm.spots; a++) {
                for (int b = 0; b < arm.spots; b++) {
                    gaps[a * MOST_SPOTS + b] = arm.ticks(arm.postures[a], arm.postures[b]);
                }
            }
            for (int set = sets - 1; set > 0; set--) {
                for (int last = 0; last < arm.spots; last++) {
                    left[set * MOST_SPOTS + last] = set == sets - 1 ? 0 : leftBehind(set, last);
                }
            }
        }

        private int leftBehind(int set, int last) {
            int best = FAR;
            for (int next = 0; next < arm.spots; next++) {
                if ((set >>> next & 1) == 0) {
                    int sum = gaps[last * MOST_SPOTS + next] + left[(set | 1 << next) * MOST_SPOTS + next];
                    best = Math.min(best, sum);
                }
            }
            return best;
        }
    }

    /** How far and how high the hand reaches, whatever RAIL, TURN and ROLL are. */
    private static final class Span {
        // Twice the 2080 pairs of angles of which the order makes no difference, so that it is never full.
        private static final int ROOM = 4096;
        private int[] seen = new int[0];

        int outermost(Arm arm, int pitch, boolean greatest) {
            int best = NO_HEIGHT;
            for (int a = arm.least[SHOULDER]; a <= arm.greatest[SHOULDER]; a++) {
                for (int elbow = arm.least[ELBOW]; elbow <= arm.greatest[ELBOW]; elbow++) {
                    if (!arm.allows(WRIST, within32(pitch - a - elbow))) {
                        continue;
                    }
                    int out = arm.link * (cos(a) + cos(a + elbow)) + arm.hand * cos(pitch);
                    if (best == NO_HEIGHT || (greatest ? out > best : out < best)) {
                        best = out;
                    }
                }
            }
            return best;
        }

        // By one PITCH two pairs of OUT and z are unlike just where the links' own shares in them are.
        int unlikePairs(Arm arm, int pitch) {
            if (seen.length < ROOM) {
                seen = new int[ROOM];
            }
            Arrays.fill(seen, 0);
            int unlike = 0;
            for (int a = arm.least[SHOULDER]; a <= arm.greatest[SHOULDER]; a++) {
                for (int elbow = arm.least[ELBOW]; elbow <= arm.greatest[ELBOW]; elbow++) {
                    int b = a + elbow;
                    if (arm.allows(WRIST, within32(pitch - b)) && isNew(cos(a) + cos(b), sin(a) + sin(b))) {
                        unlike++;
                    }
                }
            }
            return unlike;
        }

        private boolean isNew(int cosines, int sines) {
            int key = (cosines + 2000) * 4001 + sines + 2001;
            int slot = (key * 40503) >>> 8 & (ROOM - 1);
            for (int i = 0; i < ROOM; i++) {
                int there = seen[(slot + i) & (ROOM - 1)];
                if (there == key) {
                    return false;
                }
                if (there == 0) {
                    seen[(slot + i) & (ROOM - 1)] = key;
                    return true;
                }
            }
            return false;
        }

        int highest(Arm arm, int out) {
            int best = NO_HEIGHT;
            for (int a = arm.least[SHOULDER]; a <= arm.greatest[SHOULDER]; a++) {
                for (int elbow = arm.least[ELBOW]; elbow <= arm.greatest[ELBOW]; elbow++) {
                    int b = a + elbow;
                    int elbowOut = arm.link * (cos(a) + cos(b));
                    int elbowRise = 1000 * arm.height + arm.link * (sin(a) + sin(b));
                    if (elbowOut + arm.hand * 1000 >= out && elbowRise + arm.hand * 1000 > best) {
                        best = Math.max(best, highestByHand(arm, b, elbowOut, elbowRise, out));
                    }
                }
            }
            return best;
        }

        // From straight up the SINE falls both ways alike: the first angle that serves is the best.
        private int highestByHand(Arm arm, int b, int elbowOut, int elbowRise, int out) {
            for (int d = 0; d <= 32; d++) {
                int less = UPWARDS - d;
                int more = UPWARDS + d;
                if (elbowOut + arm.hand * cos(less) >= out && arm.allows(WRIST, within32(less - b))
                        || elbowOut + arm.hand * cos(more) >= out && arm.allows(WRIST, within32(more - b))) {
                    return elbowRise + arm.hand * sin(less);
                }
            }
            return NO_HEIGHT;
        }
    }

    /** What can be undone: the latest NOWs and AIMs, in a ring. */
    private static final class Past {
        int size;
        private int next;
        private final long[] postures = new long[MOST_UNDONE];
        private final int[] aims = new int[MOST_UNDONE * JOINTS];

        void forget() {
            size = 0;
            next = 0;
        }

        void push(long posture, int[] aim) {
            postures[next] = posture;
            System.arraycopy(aim, 0, aims, next * JOINTS, JOINTS);
            next = next + 1 == MOST_UNDONE ? 0 : next + 1;
            size = Math.min(size + 1, MOST_UNDONE);
        }

        long pop(int[] aim) {
            next = next == 0 ? MOST_UNDONE - 1 : next - 1;
            size--;
            System.arraycopy(aims, next * JOINTS, aim, 0, JOINTS);
            return postures[next];
        }
    }
}
