/**
 * The sentences of the document's part 3 (MOVES, TICKS, KEPT, ROUTES, STEPS, BLENDED, SLOW) and of promises 21 to 36
 * that name a boundary: each has a method of its own.
 */
public final class EdgeRouteTest {
    /** By these limits each PLACE has one SOLUTION at the most: TURN and ELBOW above 0, one SHOULDER, one ROLL. */
    private static final String LONE = "limit 1 1 31;limit 2 4 4;limit 3 1 31;limit 5 0 63;";
    private static final String MANY = "spot m 5 7 3 -32 -19 0;";
    private static final String FINE = "spot f 5 16 4 8 2 10;";
    private static final String BEYOND = "spot n 50 16 4 8 2 10;";
    private static final String SHORT_RAIL = "limit 0 0 49;rest 3 16 4 8 2 10;";

    public static void main(String[] args) {
        Check.all(EdgeRouteTest.class);
    }

    private static String numbers(int... p) {
        StringBuilder s = new StringBuilder();
        for (int v : p) {
            s.append(' ').append(v);
        }
        return s.toString();
    }

    /** From RAIL to RAIL along a way, the JOINT's speed told, all else as it is. */
    private static SixJoints rails(String more, int... rail) {
        StringBuilder s = new StringBuilder(LONE + more + "rest" + numbers(rail[0], 16, 4, 8, 2, 10) + ";");
        for (int i = 1; i < rail.length; i++) {
            s.append("spot ").append((char) ('a' + i)).append(numbers(rail[i], 16, 4, 8, 2, 10)).append(';');
        }
        for (int i = 1; i < rail.length; i++) {
            s.append("go ").append((char) ('a' + i)).append(';');
        }
        return Check.told(s.toString());
    }

    private static int ticksTo(SixJoints x, int spot) {
        for (int t = 0; t <= 200; t++) {
            if (x.step(spot, t, 0) == -99) {
                return t - 1;
            }
        }
        return 200;
    }

    // ---- MOVES

    // "difference without sign by speed, upwards": none, one, as much as the speed, one more, of each JOINT both ways
    static void ticks_upwards() {
        for (int j = 0; j < 6; j++) {
            for (int speed : new int[] {1, 4, 7}) {
                int[] differences = {0, 1, speed - 1, speed, speed + 1, 2 * speed, 2 * speed + 1};
                int[] due = {0, 1, speed == 1 ? 0 : 1, 1, 2, 2, 3};
                for (int i = 0; i < differences.length; i++) {
                    int[] from = {10, 10, 10, 10, 10, 10};
                    int[] to = from.clone();
                    to[j] += differences[i];
                    String told = "speed " + j + " " + speed + ";";
                    SixJoints up = Check.told(told + "rest" + numbers(from) + ";spot a" + numbers(to) + ";");
                    Check.due("JOINT " + j + " up by " + differences[i], ticksTo(up, 0), due[i]);
                    SixJoints down = Check.told(told + "rest" + numbers(to) + ";spot a" + numbers(from) + ";");
                    Check.due("JOINT " + j + " down by " + differences[i], ticksTo(down, 0), due[i]);
                }
            }
        }
    }

    // the slowest and the fastest speed over the whole of BOUNDS
    static void ticks_most() {
        String ends = "rest 0 -32 -32 -32 -32 -64;spot a 99 31 31 31 31 63;";
        int[] slow = {99, 63, 63, 63, 63, 127};
        int[] quick = {4, 2, 2, 2, 2, 4};
        for (int j = 0; j < 6; j++) {
            String others = "";
            for (int k = 0; k < 6; k++) {
                others += k == j ? "" : "speed " + k + " 32;";
            }
            Check.due("JOINT " + j + " by 1", ticksTo(Check.told(others + "speed " + j + " 1;" + ends), 0), slow[j]);
            Check.due("all by 32", ticksTo(Check.told(others + "speed " + j + " 32;" + ends), 0), Math.max(4, quick[j]));
        }
    }

    // "of all JOINTS the most"
    static void ticks_mostOfAll() {
        for (int j = 0; j < 6; j++) {
            int[] to = {4, 4, 4, 4, 4, 4};
            to[j] = 5;
            SixJoints x = Check.told("spot a" + numbers(to) + ";");
            Check.due("JOINT " + j + " takes most", ticksTo(x, 0), 2);
        }
        Check.due("none takes more", ticksTo(Check.told("spot a 4 4 4 4 4 4;"), 0), 1);
    }

    // "difference times t by TICKS, cut towards 0"
    static void step_cutTowards0() {
        // WRIST goes by 5 in 3 TICKS, up and down: 1.67, 3.33
        int[] up = {0, 1, 3, 5};
        int[] down = {0, -1, -3, -5};
        SixJoints x = Check.told("speed 4 2;spot a 0 0 0 0 5 0;spot b 0 0 0 0 -5 0;");
        SixJoints y = Check.told("speed 4 2;rest 0 0 0 0 -7 0;spot a 0 0 0 0 -2 0;spot b 0 0 0 0 -12 0;");
        for (int t = 0; t <= 3; t++) {
            Check.due("up", x.step(0, t, 4), up[t]);
            Check.due("down", x.step(1, t, 4), down[t]);
            Check.due("up below 0", y.step(0, t, 4), -7 + up[t]);
            Check.due("down below 0", y.step(1, t, 4), -7 + down[t]);
        }
    }

    // "(no TICKS: as it is)"
    static void step_noTicks() {
        SixJoints x = Check.told("rest 1 2 3 4 5 6;spot a 1 2 3 4 5 6;");
        for (int j = 0; j < 6; j++) {
            Check.due("tick 0", x.step(0, 0, j), j + 1);
            Check.due("tick 1", x.step(0, 1, j), -99);
            Check.due("tick -1", x.step(0, -1, j), -99);
        }
        Check.due("meets", x.meets(0), -2);
    }

    // "-99: no such spot, tick, JOINT"
    static void p21_step() {
        SixJoints x = Check.told("rest 1 2 3 4 5 6;spot a 9 2 3 4 5 6;spot b 9 2 3 4 5 7;");
        for (int spot : new int[] {-2147483648, -1, 0, 1, 2, 8, 2147483647}) {
            for (int t : new int[] {-2147483648, -1, 0, 2, 3, 2147483647}) {
                for (int joint : new int[] {-2147483648, -1, 0, 5, 6, 2147483647}) {
                    boolean such = (spot == 0 || spot == 1) && (t == 0 || t == 2) && (joint == 0 || joint == 5);
                    int due = joint == 0 ? (t == 0 ? 1 : 9) : t == 2 && spot == 1 ? 7 : 6;
                    Check.due("step(" + spot + ", " + t + ", " + joint + ")", x.step(spot, t, joint), such ? due : -99);
                }
            }
        }
    }

    // "the first tick at which it is SINGULAR": at tick 0, at the last one, between, at two of them
    static void p22_meetsFirst() {
        SixJoints x = Check.told("speed 3 1;speed 1 1;rest 0 2 0 2 0 0;spot a 0 2 0 0 0 0;spot b 0 2 0 -2 0 0;"
            + "spot c 0 -2 0 -2 0 0;spot d 0 2 0 1 0 0;");
        Check.due("at the last", x.meets(0), 2);
        Check.due("between", x.meets(1), 2);
        Check.due("TURN and ELBOW at once", x.meets(2), 2);
        Check.due("one beside", x.meets(3), -2);
        // TURN goes from 1 to -2 in four ticks: 1, 1, 0, -1, -2
        x.set(1, 1);
        Check.due("TURN and ELBOW at once", x.meets(2), 2);
        // six ticks: TURN is 0 at tick 4; ELBOW 2, 2, 1, 0: at tick 3
        x.set(1, 4);
        Check.due("ELBOW first", x.meets(2), 3);
        x.set(3, 0);
        Check.due("at tick 0", x.meets(3), 0);
        x.set(3, 2);
        x.set(1, -32);
        Check.due("at tick 0 by TURN -32", x.meets(0), 0);
    }

    // "-2: at none; NONE: no such spot"
    static void p22_meetsNone() {
        SixJoints x = Check.told("rest 0 1 0 1 0 0;spot a 0 31 0 31 0 0;spot b 0 0 0 1 0 0;");
        Check.due("at none", x.meets(0), -2);
        Check.due("at its last", x.meets(1), 1);
        for (int spot : new int[] {-2147483648, -1, 2, 8, 2147483647}) {
            Check.due("meets(" + spot + ")", x.meets(spot), -1);
        }
        // from BEND 1 to -1 in one tick: 0 is skipped
        SixJoints y = Check.told("rest 0 1 0 2 0 0;spot a 0 1 0 -2 0 0;");
        Check.due("skipped", y.meets(0), -2);
    }

    // ---- ROUTES

    // "KEPT: neither of both is SINGULAR, SIDE and BEND are the same": NOW beside a singular spot, at it, beyond it
    static void kept_edges() {
        int[][] due = {{1, 1, 1}, {31, 31, 1}, {0, 1, 0}, {1, 0, 0}, {-32, 1, 0}, {1, -32, 0}, {-1, 1, 0}, {1, -1, 0}, {-1, -1, 0},
            {-31, 31, 0}};
        for (int[] d : due) {
            SixJoints x = Check.told(LONE + "rest" + numbers(3, d[0], 4, d[1], 2, 10) + ";" + FINE + "go f;");
            Check.due("plain", x.route(false) >= 0, true);
            Check.due("steady from TURN " + d[0] + ", ELBOW " + d[1], x.route(true) >= 0, d[2] == 1);
            Check.due("-2", x.route(true) == -2, d[2] == 0);
        }
        // to a SINGULAR one
        for (int turn = 0; turn <= 1; turn++) {
            for (int elbow = 0; elbow <= 1; elbow++) {
                SixJoints x = Check.told("limit 1 0 31;limit 2 4 4;limit 3 0 31;limit 5 0 63;rest 3 16 4 8 2 10;spot a"
                    + numbers(3, turn, 4, elbow, 2, 10) + ";go a;");
                Check.due("plain", x.route(false) >= 0, true);
                Check.due("steady to TURN " + turn + ", ELBOW " + elbow, x.route(true) >= 0, turn == 1 && elbow == 1);
            }
        }
    }

    // STEADY asks its POSTURES at the ends of MOVES: SIDES the same, whatever is between
    static void kept_everyMove() {
        // a and b of one kind each, but not of the same: to a it is KEPT, from a to b it is not
        SixJoints x = Check.told("limit 2 4 4;limit 4 2 2;limit 5 0 31;rest 3 16 4 8 2 10;spot a 4 16 4 8 2 10;"
            + "spot b 4 16 4 -8 2 10;go a;go b;");
        Check.due("plain", x.route(false), 1 + 4);
        Check.due("steady", x.route(true), -2);
        SixJoints y = Check.told("limit 2 4 4;limit 4 2 2;limit 5 0 31;rest 3 16 4 8 2 10;spot a 4 16 4 8 2 10;go a;go a;");
        Check.due("steady", y.route(true), 1);
    }

    // "of several the one whose numbers of SOLUTIONS, one behind another, are first"
    static void route_ties() {
        // ROLL 32 more or 32 less: as far from 0; then back to 0, as far again
        SixJoints x = Check.told("limit 1 1 31;limit 2 4 4;limit 3 1 31;speed 5 1;rest 3 16 4 8 2 0;spot a 3 16 4 8 2 32;"
            + "spot b 3 16 4 8 2 0;go a;go b;");
        // b is ROLL -64 or 0: from -32 both take 32
        Check.due("route", x.route(false), 64);
        Check.due("the first of two", x.by(false, 0), 0);
        Check.due("the first of two", x.by(false, 1), 0);
        Check.due("ROLL", x.at(false, 64, 5), -64);
        // one more: the nearer goes, though its number is greater
        x.set(5, 1);
        Check.due("route", x.route(false), 63);
        Check.due("the second", x.by(false, 0), 1);
        Check.due("the second", x.by(false, 1), 1);
        x.set(5, -1);
        Check.due("route", x.route(false), 63);
        Check.due("the first", x.by(false, 0), 0);
        Check.due("the first", x.by(false, 1), 0);
    }

    // "TICKS of all MOVES together least": a dearer MOVE first, if the others are cheaper by more
    static void route_allTogether() {
        // a is held by ROLL -30 and 34, b by -8 and 56
        String text = "limit 1 1 31;limit 2 4 4;limit 3 1 31;speed 5 1;limit 5 -30 63;spot a 3 16 4 8 2 -30;spot b 3 16 4 8 2 56;";
        SixJoints x = Check.told(text + "rest 3 16 4 8 2 0;go a;");
        Check.due("a alone", x.route(false), 30);
        Check.due("by ROLL -30", x.by(false, 0), 0);
        SixJoints y = Check.told(text + "rest 3 16 4 8 2 0;go a;go b;");
        // 30 and 22 to ROLL -8; 34 and 22 to ROLL 56
        Check.due("both", y.route(false), 52);
        Check.due("by ROLL -30", y.by(false, 0), 0);
        Check.due("by ROLL -8", y.by(false, 1), 0);
        SixJoints z = Check.told(text + "rest 3 16 4 8 2 0;spot c 3 16 4 8 2 63;go a;go c;");
        // c is ROLL -1 or 63: 30 and 29; 34 and 29
        Check.due("both", z.route(false), 59);
        SixJoints v = Check.told(text + "rest 3 16 4 8 2 0;spot d 3 16 4 8 2 31;go a;go d;");
        // d is ROLL 31 alone: 30 and 61; 34 and 3
        Check.due("the dearer one first", v.route(false), 37);
        Check.due("by ROLL 34", v.by(false, 0), 1);
        Check.due("by ROLL 31", v.by(false, 1), 0);
    }

    // "-2: a spot of THE WAY has no SOLUTIONS; -3: none is so, but one has TOO MANY; -2: else there is no ROUTE"
    static void p23_routeOrder() {
        String all = SHORT_RAIL + BEYOND + MANY + FINE;
        String[] ways = {"go f;", "go n;", "go m;", "go f;go n;", "go n;go f;", "go f;go m;", "go m;go f;", "go m;go n;",
            "go n;go m;", "go f;go m;go n;", "go n;go f;go m;"};
        int[] due = {1, -2, -3, -2, -2, -3, -3, -2, -2, -2, -2};
        for (int i = 0; i < ways.length; i++) {
            SixJoints x = Check.told(all + ways[i]);
            Check.due("plain " + ways[i], x.route(false), due[i]);
            Check.due("steady " + ways[i], x.route(true), due[i]);
        }
        // "(whatever else is so)": from a SINGULAR NOW nothing is KEPT, but one has TOO MANY
        for (int turn = 0; turn <= 1; turn++) {
            SixJoints x = Check.told("rest" + numbers(3, turn, 4, 8, 2, 10) + ";" + MANY + FINE + "go f;go m;");
            Check.due("steady", x.route(true), -3);
            SixJoints y = Check.told("rest" + numbers(3, turn, 4, 8, 2, 10) + ";" + MANY + FINE + "go f;");
            Check.due("steady", y.route(true) == -2, turn == 0);
        }
    }

    // "0: THE WAY has no spots": from a SINGULAR NOW too
    static void p23_emptyWay() {
        for (int turn = 0; turn <= 1; turn++) {
            SixJoints x = Check.told("rest" + numbers(3, turn, 4, 8, 2, 10) + ";" + MANY + BEYOND);
            Check.due("plain", x.route(false), 0);
            Check.due("steady", x.route(true), 0);
        }
    }

    // one spot, ten spots, the same one again and again
    static void p23_longestWay() {
        int[] ten = {0, 99, 0, 99, 0, 99, 0, 99, 0};
        SixJoints x = rails("speed 0 1;", ten);
        Check.due("eight", x.route(false), 8 * 99);
        SixJoints y = Check.told(LONE + "speed 0 1;rest 0 16 4 8 2 10;spot a 99 16 4 8 2 10;spot b 0 16 4 8 2 10;"
            + "go a;go b;go a;go b;go a;go b;go a;go b;go a;go b;");
        Check.due("ten", y.route(false), 10 * 99);
        Check.due("steady", y.route(true), 10 * 99);
        Check.due("the end", y.at(true, 990, 0), 0);
        Check.due("behind it", y.at(true, 991, 0), -99);
        Check.due("CORNER", y.at(true, 891, 0), 99);
        SixJoints z = Check.told(LONE + "rest 0 16 4 8 2 10;spot a 0 16 4 8 2 10;" + "go a;".repeat(10));
        Check.due("nowhere", z.route(true), 0);
        Check.due("at", z.at(true, 0, 0), 0);
        Check.due("at", z.at(true, 1, 0), -99);
        Check.due("by", z.by(true, 9), 0);
    }

    // "-2, -3 likewise; NONE: no such i": NONE first
    static void p24_by() {
        SixJoints x = rails("", 0, 4, 8);
        for (int i : new int[] {-2147483648, -1, 0, 1, 2, 10, 2147483647}) {
            Check.due("by(" + i + ")", x.by(false, i), i == 0 || i == 1 ? 0 : -1);
        }
        SixJoints none = Check.told(SHORT_RAIL + BEYOND + "go n;go n;");
        SixJoints many = Check.told(SHORT_RAIL + MANY + "go m;go m;");
        SixJoints singular = Check.told(FINE + "go f;go f;");
        for (int i : new int[] {-1, 0, 1, 2}) {
            boolean such = i == 0 || i == 1;
            Check.due("none", none.by(false, i), such ? -2 : -1);
            Check.due("TOO MANY", many.by(true, i), such ? -3 : -1);
            Check.due("no ROUTE", singular.by(true, i), such ? -2 : -1);
        }
        Check.due("without a WAY", new SixJoints().by(false, 0), -1);
    }

    // a ROUTE of no TICKS is one: it goes by the SOLUTION that NOW is
    static void p24_byNoTicks() {
        int[][] postures = {{3, -16, 20, 8, -10, 42}, {3, -16, 28, -8, -2, 42}, {3, 16, 4, 8, 2, 10}, {3, 16, 12, -8, 10, 10}};
        for (int k = 0; k < 4; k++) {
            SixJoints x = Check.told("limit 5 0 63;rest" + numbers(postures[k]) + ";spot a 3 16 4 8 2 10;go a;go a;");
            for (boolean steady : new boolean[] {false, true}) {
                Check.due("route", x.route(steady), 0);
                Check.due("by", x.by(steady, 0), k);
                Check.due("by", x.by(steady, 1), k);
                Check.due("at", x.at(steady, 0, 1), postures[k][1]);
                Check.due("blended", x.blended(steady, 2, 1), 5 * postures[k][1]);
                Check.due("blended", x.blended(steady, -2, 1), 5 * postures[k][1]);
                Check.due("blended", x.blended(steady, 3, 1), -9999);
                Check.due("misses", x.misses(steady, 1, 1), 0);
                Check.due("roundest", x.roundest(steady, 0), 9);
                Check.due("clear", x.clear(steady), 707);
            }
        }
    }

    // "a JOINT at tick t (of 0 .. all); -99: no such ROUTE, tick, JOINT"
    static void p25_at() {
        SixJoints x = rails("", 0, 4, 8);
        for (int t : new int[] {-2147483648, -1, 0, 1, 2, 3, 2147483647}) {
            for (int joint : new int[] {-2147483648, -1, 0, 5, 6, 2147483647}) {
                boolean such = t >= 0 && t <= 2 && (joint == 0 || joint == 5);
                Check.due("at(" + t + ", " + joint + ")", x.at(true, t, joint), such ? joint == 0 ? 4 * t : 10 : -99);
            }
        }
        SixJoints none = Check.told(SHORT_RAIL + BEYOND + "go n;");
        Check.due("none", none.at(false, 0, 0), -99);
        Check.due("TOO MANY", Check.told(SHORT_RAIL + MANY + "go m;").at(false, 0, 0), -99);
        Check.due("no ROUTE", Check.told(FINE + "go f;").at(true, 0, 0), -99);
    }

    // "BLENDED at t, from less blend to the end and blend": for each blend, at both ends and one beyond
    static void p26_blendedEnds() {
        for (int blend = 0; blend <= 9; blend++) {
            SixJoints x = rails("blend " + blend + ";", 1, 5, 9);
            int sum = 2 * blend + 1;
            Check.due("one ahead", x.blended(false, -blend - 1, 0), -9999);
            Check.due("first", x.blended(false, -blend, 0), sum);
            Check.due("last", x.blended(false, 2 + blend, 0), 9 * sum);
            Check.due("one behind", x.blended(false, 2 + blend + 1, 0), -9999);
            Check.due("in the middle", x.blended(false, 1, 0), 5 * sum);
            Check.due("second", x.blended(false, 1 - blend, 0), blend == 0 ? 5 : sum + 4);
        }
    }

    // "-9999: no such ROUTE, t, JOINT"
    static void p26_blendedNone() {
        SixJoints x = rails("", 1, 5, 9);
        for (int joint : new int[] {-2147483648, -1, 6, 2147483647}) {
            Check.due("JOINT " + joint, x.blended(false, 0, joint), -9999);
        }
        for (int t : new int[] {-2147483648, -3, 5, 2147483647}) {
            Check.due("t " + t, x.blended(false, t, 0), -9999);
        }
        Check.due("none", Check.told(SHORT_RAIL + BEYOND + "go n;").blended(false, 0, 0), -9999);
        Check.due("TOO MANY", Check.told(SHORT_RAIL + MANY + "go m;").blended(false, 0, 0), -9999);
        Check.due("no ROUTE", Check.told(FINE + "go f;").blended(true, 0, 0), -9999);
    }

    // "The greatest difference from one t to the next, without sign": of STEPS; of BLENDED from its first t to its last
    static void p27_fastest() {
        // 20, 16, 12, 13, 14, 15: down by 4, up by 1
        SixJoints x = Check.told(LONE + "blend 1;rest 20 16 4 8 2 10;spot a 12 16 4 8 2 10;spot b 15 16 4 8 2 19;go a;go b;");
        Check.due("route", x.route(false), 5);
        Check.due("STEPS, downwards", x.fastest(false, 0, false), 4);
        // 60, 56, 48, 41, 39, 42, 44, 45
        Check.due("BLENDED", x.fastest(false, 0, true), 8);
        Check.due("ROLL", x.fastest(false, 5, false), 3);
        // the same way back: the greatest is near the end
        SixJoints back = Check.told(LONE + "blend 1;rest 15 16 4 8 2 19;spot a 12 16 4 8 2 10;spot b 20 16 4 8 2 10;go a;go b;");
        Check.due("STEPS, upwards", back.fastest(false, 0, false), 4);
        Check.due("BLENDED", back.fastest(false, 0, true), 8);
        // at the very end: 5, 5, 5, 5, 9 and blend 4
        SixJoints late = Check.told(LONE + "blend 4;rest 5 16 4 8 2 10;spot a 5 16 4 8 2 26;spot b 9 16 4 8 2 26;go a;go b;");
        Check.due("route", late.route(false), 5);
        Check.due("BLENDED", late.fastest(false, 0, true), 4);
        // the first t and the last one count: one step alone
        for (int blend = 0; blend <= 9; blend++) {
            SixJoints y = rails("blend " + blend + ";", 1, 4);
            Check.due("STEPS", y.fastest(false, 0, false), 3);
            Check.due("BLENDED", y.fastest(false, 0, true), 3);
        }
        SixJoints z = rails("blend 9;", 1, 1);
        Check.due("no ticks", z.fastest(false, 0, false), 0);
        Check.due("no ticks", z.fastest(false, 0, true), 0);
    }

    // "NONE: no such JOINT; -2, -3 as route()": NONE first
    static void p27_fastestNone() {
        SixJoints fine = rails("", 1, 5);
        SixJoints none = Check.told(SHORT_RAIL + BEYOND + "go n;");
        SixJoints many = Check.told(SHORT_RAIL + MANY + "go m;");
        for (boolean smooth : new boolean[] {false, true}) {
            for (int joint : new int[] {-2147483648, -1, 6, 2147483647}) {
                Check.due("JOINT " + joint, fine.fastest(false, joint, smooth), -1);
                Check.due("JOINT " + joint, none.fastest(false, joint, smooth), -1);
                Check.due("JOINT " + joint, many.fastest(true, joint, smooth), -1);
            }
            for (int joint : new int[] {0, 5}) {
                Check.due("none", none.fastest(false, joint, smooth), -2);
                Check.due("TOO MANY", many.fastest(true, joint, smooth), -3);
            }
        }
    }

    // "By how much, without sign": BLENDED above and below; at the first tick, at the last
    static void p28_misses() {
        // 10, 7 | 4 .. : corners at 1 (RAIL 7) and 3 (RAIL 13), by blend 1
        SixJoints x = rails("blend 1;", 10, 7, 13);
        // 10, 7, 10, 13
        Check.due("route", x.route(false), 3);
        Check.due("BLENDED is more", x.misses(false, 0, 0), 10 + 7 + 10 - 21);
        Check.due("BLENDED is less", x.misses(false, 1, 0), 39 - (10 + 13 + 13));
        Check.due("straight on", rails("blend 1;", 10, 13, 16).misses(false, 0, 0), 0);
        // a CORNER at tick 0
        SixJoints y = rails("blend 2;", 10, 10, 14);
        Check.due("CORNER at 0", y.misses(false, 0, 0), 4 + 4);
        Check.due("the end", y.misses(false, 1, 0), 4 + 4);
        SixJoints z = rails("blend 0;", 10, 7, 13);
        Check.due("blend 0", z.misses(false, 0, 0), 0);
    }

    // "NONE: no such i, JOINT; -2, -3 as route()": NONE first
    static void p28_missesNone() {
        SixJoints fine = rails("", 10, 7, 13);
        SixJoints none = Check.told(SHORT_RAIL + BEYOND + "go n;go n;");
        SixJoints many = Check.told(SHORT_RAIL + MANY + "go m;go m;");
        for (int i : new int[] {-2147483648, -1, 0, 1, 2, 10, 2147483647}) {
            for (int joint : new int[] {-2147483648, -1, 0, 5, 6, 2147483647}) {
                boolean such = (i == 0 || i == 1) && (joint == 0 || joint == 5);
                Check.due("fine", fine.misses(false, i, joint) >= 0, such);
                Check.due("none", none.misses(false, i, joint), such ? -2 : -1);
                Check.due("TOO MANY", many.misses(true, i, joint), such ? -3 : -1);
            }
        }
    }

    // "none is more than m times 2 blend and 1": just as much holds, one more does not
    static void p29_roundestEdges() {
        // one step of d to the end: misses by d for each blend, so d times blend is at most m times (2 blend and 1)
        int[][] due = {{0, 0, 9}, {1, 0, 0}, {2, 1, 9}, {3, 1, 1}, {4, 1, 0}, {4, 2, 9}, {3, 2, 9}};
        for (int[] d : due) {
            SixJoints x = rails("", 10, 10 + d[0]);
            Check.due("step of " + d[0] + ", m " + d[1], x.roundest(false, d[1]), d[2]);
            SixJoints y = rails("", 10, 10 - d[0]);
            Check.due("step of less " + d[0] + ", m " + d[1], y.roundest(false, d[1]), d[2]);
        }
        // steps of 32: 32 by 9 is 288 and 15 by 19 is 285, 16 by 19 is 304; 32 by 1 is 32 and 10 by 3 is 30, 11 by 3 is 33
        SixJoints z = rails("speed 0 32;", 10, 42);
        int[][] byM = {{10, 0}, {11, 1}, {12, 1}, {13, 2}, {14, 3}, {15, 7}, {16, 9}};
        for (int[] d : byM) {
            Check.due("step of 32, m " + d[0], z.roundest(false, d[0]), d[1]);
        }
    }

    // "The greatest blend 0 .. 9 (in place of that told)": whatever is told
    static void p29_roundestToldBlend() {
        for (int blend = 0; blend <= 9; blend++) {
            SixJoints x = rails("blend " + blend + ";", 10, 13);
            Check.due("blend " + blend, x.roundest(false, 1), 1);
            Check.due("all", x.roundest(false, 99), 9);
        }
    }

    // "none of all misses()": of each spot, of each JOINT
    static void p29_roundestOfAll() {
        // at the first CORNER it goes straight on, at the last it misses
        Check.due("the last", rails("", 10, 13, 16).roundest(false, 1), 1);
        // misses at the first: 10, 13, 13 ..
        Check.due("the first", rails("speed 5 1;", 10, 13, 13).roundest(false, 1), 1);
        for (int j = 0; j < 6; j++) {
            int[] from = {10, 16, 4, 8, 2, 10};
            int[] to = from.clone();
            to[j] += 3;
            SixJoints x = Check.told("limit 1 1 31;limit 3 1 31;limit 5 0 63;rest" + numbers(from) + ";spot a" + numbers(to)
                + ";go a;");
            int k = x.by(false, 0);
            boolean lone = x.route(false) == 1 && k >= 0;
            Check.due("one tick", lone, true);
            int worst = 0;
            for (int i = 0; i < 6; i++) {
                worst = Math.max(worst, Math.abs(x.at(false, 1, i) - from[i]));
            }
            Check.due("JOINT " + j, x.roundest(false, 1), worst == 3 ? 1 : 0);
        }
    }

    // the greatest that holds, though lesser ones do not: RAIL comes back, so that what it is off by wears off
    static void p29_roundestThoughALesserFails() {
        SixJoints x = rails("", 3, 12, 4, 2, 12);
        int[] rail = {3, 6, 9, 12, 8, 4, 2, 5, 8, 12};
        int[] corners = {3, 5, 6, 9};
        boolean[] due = {true, true, true, true, false, false, false, true, true, true};
        for (int t = 0; t < rail.length; t++) {
            Check.due("RAIL at " + t, x.at(false, t, 0), rail[t]);
        }
        for (int blend = 0; blend <= 9; blend++) {
            boolean holds = true;
            for (int corner : corners) {
                int off = 0;
                for (int t = corner - blend; t <= corner + blend; t++) {
                    off += rail[Math.max(0, Math.min(9, t))] - rail[corner];
                }
                holds &= Math.abs(off) <= 6 * (2 * blend + 1);
            }
            Check.due("blend " + blend, holds, due[blend]);
        }
        Check.due("m 6", x.roundest(false, 6), 9);
        Check.due("m 5", x.roundest(false, 5), 2);
        // 0, 1, 2 hold, then 9 alone
        Check.due("9 alone", rails("", 24, 16, 12, 19, 15, 14, 8).roundest(false, 5), 9);
    }

    // NOW is no CORNER: it goes slower and slower, so that BLENDED is off by 1 at each spot, by 4 where it starts
    static void p29_roundestNotOfNow() {
        SixJoints x = rails("blend 1;", 0, 4, 7, 9, 10);
        int[] misses = {1, 1, 1, 1};
        for (int i = 0; i < 4; i++) {
            Check.due("misses(" + i + ")", x.misses(false, i, 0), misses[i]);
        }
        Check.due("m 0", x.roundest(false, 0), 0);
        // by blend 2 off by 0, 5, 5, 4 of 5; by blend 3 the second one by 9 of 7, and more by more
        Check.due("m 1", x.roundest(false, 1), 2);
        // behind a WAY of more spots
        SixJoints y = rails("", 50, 0, 50, 0, 50, 0, 50);
        y.roundest(false, 1);
        Check.tell(y, LONE + "rest 0 16 4 8 2 10;spot a 4 16 4 8 2 10;spot b 7 16 4 8 2 10;spot c 9 16 4 8 2 10;"
            + "spot d 10 16 4 8 2 10;go a;go b;go c;go d;");
        Check.due("m 1 behind another TEXT", y.roundest(false, 1), 2);
    }

    // "m 0 .. 99"; "-2, -3 as route(); NONE: no such m": NONE first
    static void p29_roundestNone() {
        SixJoints fine = rails("", 10, 14);
        SixJoints none = Check.told(SHORT_RAIL + BEYOND + "go n;");
        SixJoints many = Check.told(SHORT_RAIL + MANY + "go m;");
        for (int m : new int[] {-2147483648, -1, 0, 99, 100, 2147483647}) {
            boolean such = m == 0 || m == 99;
            Check.due("fine", fine.roundest(false, m), such ? m == 0 ? 0 : 9 : -1);
            Check.due("none", none.roundest(false, m), such ? -2 : -1);
            Check.due("TOO MANY", many.roundest(true, m), such ? -3 : -1);
        }
    }

    // "how often SIDE, 1 BEND is another one than at the tick ahead": to 0 and from it are two
    static void p30_changesOfSides() {
        String limits = "limit 2 4 4;limit 4 2 2;limit 5 0 31;speed 1 1;speed 3 1;";
        // TURN or ELBOW 2 .. 1: none; 2 .. 0: one; 2 .. -1: two; by speed 4 from 2 to -2 in one tick: one
        for (int what = 0; what < 2; what++) {
            int joint = what == 0 ? 1 : 3;
            for (int end = 2; end >= -2; end--) {
                int[] from = {3, 16, 4, 8, 2, 10};
                from[joint] = 2;
                int[] to = from.clone();
                to[joint] = end;
                SixJoints x = Check.told(limits + "rest" + numbers(from) + ";spot a" + numbers(to) + ";go a;");
                Check.due("the end", x.at(false, x.route(false), joint), end);
                Check.due("changes(" + what + ") to " + end, x.changes(false, what), end > 0 ? 0 : end == 0 ? 1 : 2);
                Check.due("the other one", x.changes(false, 1 - what), 0);
            }
            int[] from = {3, 16, 4, 8, 2, 10};
            from[joint] = 2;
            int[] to = from.clone();
            to[joint] = -2;
            SixJoints y = Check.told("limit 2 4 4;limit 4 2 2;limit 5 0 31;rest" + numbers(from) + ";spot a" + numbers(to)
                + ";go a;");
            Check.due("in one tick", y.route(false), 1);
            Check.due("skipped 0", y.changes(false, what), 1);
        }
    }

    // "2 how often ROLL begins to turn the other way": not as it begins, not as it rests, not as it goes on likewise
    static void p30_changesOfRoll() {
        int[][] rolls = {{10, 10}, {10, 14}, {10, 14, 18}, {10, 14, 10}, {10, 6, 10}, {10, 14, 14, 18}, {10, 14, 14, 10},
            {10, 14, 10, 14}, {10, 10, 14, 10, 10, 6, 6, 10}};
        int[] due = {0, 0, 0, 1, 1, 0, 1, 2, 2};
        for (int i = 0; i < rolls.length; i++) {
            StringBuilder s = new StringBuilder(LONE + "rest" + numbers(0, 16, 4, 8, 2, rolls[i][0]) + ";");
            StringBuilder go = new StringBuilder();
            for (int k = 1; k < rolls[i].length; k++) {
                // RAIL goes on, so that ticks come at which ROLL rests
                s.append("spot ").append((char) ('a' + k)).append(numbers(4 * k, 16, 4, 8, 2, rolls[i][k])).append(';');
                go.append("go ").append((char) ('a' + k)).append(';');
            }
            SixJoints x = Check.told(s.toString() + go);
            Check.due("route", x.route(false), rolls[i].length - 1);
            Check.due("way " + i, x.changes(false, 2), due[i]);
        }
    }

    // by one a tick, each way
    static void p30_changesOfSlowRoll() {
        SixJoints x = Check.told(LONE + "speed 5 1;rest 0 16 4 8 2 10;spot a 0 16 4 8 2 12;spot b 0 16 4 8 2 11;spot c 0 16 4 8 2 13;"
            + "go a;go b;go c;");
        Check.due("route", x.route(false), 2 + 1 + 2);
        Check.due("to and fro", x.changes(false, 2), 2);
    }

    // "-2, -3 as route(); NONE for another what": NONE first
    static void p30_changesNone() {
        SixJoints fine = rails("", 10, 14);
        SixJoints none = Check.told(SHORT_RAIL + BEYOND + "go n;");
        SixJoints many = Check.told(SHORT_RAIL + MANY + "go m;");
        for (int what : new int[] {-2147483648, -1, 0, 1, 2, 3, 2147483647}) {
            boolean such = what >= 0 && what <= 2;
            Check.due("fine", fine.changes(false, what), such ? 0 : -1);
            Check.due("none", none.changes(false, what), such ? -2 : -1);
            Check.due("TOO MANY", many.changes(true, what), such ? -3 : -1);
        }
    }

    // "-2, -3 as route()"; nothing where it stays; more than an int holds
    static void p31_travel() {
        Check.due("none", Check.told(SHORT_RAIL + BEYOND + "go n;").travel(false), -2);
        Check.due("TOO MANY", Check.told(SHORT_RAIL + MANY + "go m;").travel(true), -3);
        Check.due("no ROUTE", Check.told(FINE + "go f;").travel(true), -2);
        Check.due("stays", rails("", 5, 5).travel(true), 0);
        Check.due("without a WAY", rails("", 5).travel(true), 0);
        Check.due("there and back", rails("", 5, 9, 5).travel(true), 8000000L);
        // z alone counts 1000 times: the hand from 8 below to 8 above, in two ticks
        SixJoints once = Check.told("limit 0 0 0;limit 1 0 0;limit 2 0 0;limit 3 0 0;limit 5 0 31;speed 4 8;rest 0 0 0 0 -8 0;"
            + "spot a 0 0 0 0 8 0;go a;");
        Check.due("up", once.travel(false), 2 * 1000L * 4 * 707 + 2 * 1000L * 4 * 293);
        // and back
        SixJoints up = Check.told("limit 0 0 0;limit 1 0 0;limit 2 0 0;limit 3 0 0;limit 5 0 31;speed 4 8;rest 0 0 0 0 -8 0;"
            + "spot a 0 0 0 0 8 0;spot b 0 0 0 0 -8 0;go a;go b;");
        Check.due("up and down", up.travel(false), 4 * 1000L * 4 * 707 + 4 * 1000L * 4 * 293);
        SixJoints x = Check.told(LONE + "rest 0 16 4 8 2 10;spot a 99 16 4 8 2 10;spot b 0 16 4 8 2 10;"
            + "go a;go b;go a;go b;go a;go b;go a;go b;go a;go b;");
        Check.due("990 rails", x.travel(false), 990000000L);
        // straight arms of 297 from side to side ten times: TURN -16 and 16 by 32 in one tick each, 594 a time
        SixJoints y = Check.told("link 99;hand 99;limit 2 0 0;limit 3 0 0;limit 5 0 63;limit 1 -16 16;speed 1 32;rest 0 -16 0 0 0 0;"
            + "spot a 0 16 0 0 0 0;spot b 0 -16 0 0 0 0;go a;go b;go a;go b;go a;go b;go a;go b;go a;go b;");
        Check.due("far more than an int", y.travel(false), 10 * 594000000L);
    }

    // "(0 without spots)"; one spot; NOW at it
    static void p32_tour() {
        SixJoints x = new SixJoints();
        Check.due("without spots", x.tour(), 0);
        Check.due("one", Check.told("spot a 9 0 0 0 0 0;").tour(), 3);
        Check.due("NOW at it", Check.told("rest 9 0 0 0 0 0;spot a 9 0 0 0 0 0;").tour(), 0);
        // eight, four on either side: as many TICKS by 3, 2, 1, 0 first, but 0, 1, 2, 3 is the first order
        StringBuilder s = new StringBuilder("speed 0 1;rest 50 0 0 0 0 0;");
        for (int i = 0; i < 8; i++) {
            s.append("spot ").append((char) ('a' + i)).append(' ').append(i < 4 ? 40 + i : 60 + i).append(" 0 0 0 0 0;");
        }
        SixJoints y = Check.told(s.toString());
        Check.due("eight", y.tour(), 10 + 27);
        for (int i = 0; i < 8; i++) {
            Check.due("stop(" + i + ")", y.stop(i), i);
        }
    }

    // from NOW: another one, another TEXT, back
    static void p32_tourFromNow() {
        SixJoints x = Check.told("speed 0 1;rest 50 0 0 0 0 0;spot a 60 0 0 0 0 0;spot b 41 0 0 0 0 0;");
        Check.due("tour", x.tour(), 28);
        Check.due("stop(0)", x.stop(0), 1);
        x.set(0, 55);
        Check.due("stop(0) ahead of tour()", x.stop(0), 0);
        Check.due("tour", x.tour(), 24);
        Check.due("again", x.tour(), 24);
        x.undo();
        Check.due("tour", x.tour(), 28);
        Check.tell(x, "speed 0 2;rest 50 0 0 0 0 0;spot a 60 0 0 0 0 0;spot b 41 0 0 0 0 0;");
        Check.due("another TEXT, the same NOW", x.tour(), 15);
    }

    // "of several orders the first one by numbers of spots"
    static void p33_stopTies() {
        // all at one place: 0, 1, 2 ..
        StringBuilder s = new StringBuilder();
        for (int i = 0; i < 8; i++) {
            s.append("spot ").append((char) ('a' + i)).append(" 8 0 0 0 0 0;");
        }
        SixJoints x = Check.told(s.toString());
        Check.due("tour", x.tour(), 2);
        for (int i = 0; i < 8; i++) {
            Check.due("stop(" + i + ")", x.stop(i), i);
        }
        // as far one way as the other: the first; one nearer: that one
        String spots = "speed 0 1;spot a 60 0 0 0 0 0;spot b 40 0 0 0 0 0;";
        int[][] due = {{49, 1, 29}, {50, 0, 30}, {51, 0, 29}};
        for (int[] d : due) {
            SixJoints y = Check.told(spots + "rest " + d[0] + " 0 0 0 0 0;");
            Check.due("tour from " + d[0], y.tour(), d[2]);
            Check.due("stop(0) from " + d[0], y.stop(0), d[1]);
            Check.due("stop(1) from " + d[0], y.stop(1), 1 - d[1]);
        }
    }

    // "NONE: no such i"
    static void p33_stopNone() {
        SixJoints x = Check.told("spot a 9 0 0 0 0 0;spot b 5 0 0 0 0 0;");
        for (int i : new int[] {-2147483648, -1, 0, 1, 2, 8, 2147483647}) {
            Check.due("stop(" + i + ")", x.stop(i), i == 0 ? 1 : i == 1 ? 0 : -1);
        }
        Check.due("without spots", new SixJoints().stop(0), -1);
    }

    // "within limits": at a limit, one off it, each JOINT both ways
    static void p34_freeToLimits() {
        for (int j = 0; j < 6; j++) {
            int[] p = {10, 16, 4, 8, 2, 10};
            for (int off = 0; off <= 2; off++) {
                String limit = "limit " + j + " " + (p[j] - off) + " " + (p[j] + 2 - off) + ";rest" + numbers(p) + ";";
                SixJoints x = Check.told(limit);
                Check.due("down by " + off, x.free(j, false), off);
                Check.due("up by " + (2 - off), x.free(j, true), 2 - off);
            }
        }
        // the whole of BOUNDS
        SixJoints x = Check.told("rest 0 16 -32 8 -32 -64;");
        int[] up = {99, 15, 63, 23, 63, 127};
        for (int j = 0; j < 6; j++) {
            Check.due("up", x.free(j, true), up[j]);
        }
        SixJoints y = Check.told("rest 99 16 31 8 31 63;");
        int[] down = {99, 15, 63, 7, 63, 127};
        for (int j = 0; j < 6; j++) {
            Check.due("down", y.free(j, false), down[j]);
        }
    }

    // "never SINGULAR (0: not by one; NOW's own is not asked)"
    static void p34_freeOfSingular() {
        for (int joint : new int[] {1, 3}) {
            int[][] due = {{-32, 31, 0}, {-31, 30, 0}, {-30, 29, 1}, {-2, 1, 29}, {-1, 0, 30}, {0, 31, 31}, {1, 30, 0}, {2, 29, 1},
                {31, 0, 30}};
            for (int[] d : due) {
                int[] p = {10, 16, 4, 8, 2, 10};
                p[joint] = d[0];
                SixJoints x = Check.told("rest" + numbers(p) + ";");
                Check.due("JOINT " + joint + " up from " + d[0], x.free(joint, true), d[1]);
                Check.due("JOINT " + joint + " down from " + d[0], x.free(joint, false), d[2]);
            }
        }
        // SINGULAR by another JOINT: not by one, whatever moves
        SixJoints x = Check.told("rest 10 0 4 8 2 10;");
        for (int j = 0; j < 6; j++) {
            Check.due("up", x.free(j, true), j == 1 ? 31 : 0);
            Check.due("down", x.free(j, false), j == 1 ? 31 : 0);
        }
    }

    // NOW beyond a limit: one off it comes in, two off it can't by one
    static void p34_freeFromBeyond() {
        int[][] due = {{7, 0, 0}, {8, 0, 0}, {9, 11, 0}, {10, 10, 0}, {11, 9, 1}, {20, 0, 10}, {21, 0, 11}, {22, 0, 0}};
        for (int[] d : due) {
            SixJoints x = Check.told("limit 0 10 20;rest" + numbers(d[0], 16, 4, 8, 2, 10) + ";");
            Check.due("up from " + d[0], x.free(0, true), d[1]);
            Check.due("down from " + d[0], x.free(0, false), d[2]);
        }
    }

    // "NONE: no such JOINT"
    static void p34_freeNone() {
        SixJoints x = Check.told("rest 10 16 4 8 2 10;");
        for (int joint : new int[] {-2147483648, -1, 6, 2147483647}) {
            Check.due("up", x.free(joint, true), -1);
            Check.due("down", x.free(joint, false), -1);
        }
    }

    /** One tick to a POSTURE by whose TURN and ELBOW it is. */
    private static SixJoints oneTick(int turn, int elbow) {
        return Check.told(LONE + "speed 1 32;speed 3 32;rest 3 16 4 16 2 10;spot a" + numbers(3, turn, 4, elbow, 2, 10) + ";go a;");
    }

    // "2, if MEASURE by then is below 200, 4, if below 50"
    static void p35_slowEdges() {
        // the MEASURES nearest to 200 and to 50 that there are: 195, 205; 46, 54
        int[][] due = {{3, 8, 205, 1}, {16, 2, 195, 2}, {2, 16, 195, 2}, {1, 6, 54, 2}, {6, 1, 54, 2}, {1, 5, 46, 4}, {5, 1, 46, 4},
            {1, 1, 9, 4}, {17, 16, 995, 1}};
        for (int[] d : due) {
            SixJoints x = oneTick(d[0], d[1]);
            Check.due("route", x.route(true), 1);
            Check.due("MEASURE", x.clear(true), d[2]);
            Check.due("SLOW by " + d[2], x.slow(true), d[3]);
            Check.due("SLOW by " + d[2], x.slow(false), d[3]);
        }
    }

    // "each tick from 1 on": tick 0 does not count, no ticks are 0
    static void p35_slowFrom1() {
        SixJoints x = Check.told(LONE + "speed 1 32;rest 3 1 4 1 2 10;spot a 3 16 4 1 2 10;spot b 3 16 4 5 2 10;go a;go b;");
        // NOW 9 does not count; a is 98, b is 471
        Check.due("slow", x.slow(true), 2 + 1);
        Check.due("no ticks", rails("", 5, 5).slow(true), 0);
        Check.due("SINGULAR", Check.told("limit 1 0 0;limit 2 4 4;limit 3 8 8;limit 5 0 63;rest 3 0 4 8 2 10;spot a 7 0 4 8 2 10;go a;")
            .slow(false), 4);
        Check.due("none", Check.told(SHORT_RAIL + BEYOND + "go n;").slow(false), -2);
        Check.due("TOO MANY", Check.told(SHORT_RAIL + MANY + "go m;").slow(true), -3);
        Check.due("no ROUTE", Check.told(FINE + "go f;").slow(true), -2);
    }

    // "The least MEASURE at all its ticks": the first, the last, one between
    static void p36_clear() {
        String limits = LONE + "speed 1 1;";
        SixJoints first = Check.told(limits + "rest 3 1 4 16 2 10;spot a 3 5 4 16 2 10;go a;");
        Check.due("the first", first.clear(true), 98);
        SixJoints last = Check.told(limits + "rest 3 5 4 16 2 10;spot a 3 1 4 16 2 10;go a;");
        Check.due("the last", last.clear(true), 98);
        SixJoints between = Check.told("limit 2 4 4;limit 4 2 2;limit 5 0 31;speed 1 1;rest 3 2 4 16 2 10;spot a 3 -2 4 16 2 10;go a;");
        Check.due("between", between.clear(false), 0);
        Check.due("without a WAY", rails("", 5).clear(true), 707);
        Check.due("SINGULAR, without a WAY", new SixJoints().clear(true), 0);
        Check.due("none", Check.told(SHORT_RAIL + BEYOND + "go n;").clear(false), -2);
        Check.due("TOO MANY", Check.told(SHORT_RAIL + MANY + "go m;").clear(true), -3);
        Check.due("no ROUTE", Check.told(FINE + "go f;").clear(true), -2);
    }
}
