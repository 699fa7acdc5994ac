/** Promises 23 to 31, 35 and 36: routes, their steps, blended, how they go. */
public final class RouteTest {
    public static void main(String[] args) {
        plainAndSteady();
        ties();
        noRoute();
        emptyWay();
        steps();
        blending();
        rounding();
        changing();
        slowAndClear();
        travelling();
        afterChanges();
        Check.end("RouteTest");
    }

    private static void plainAndSteady() {
        // BEND must change to come to b by its own posture, but its PLACE is held by the other BEND too
        String text = "limit 5 0 63;rest 3 16 4 8 2 10;spot b 3 16 12 -8 10 10;go b;";
        SixJoints x = Check.told(text);
        Check.due("plain", x.route(false), 0);
        Check.due("steady", x.route(true), 0);
        Check.due("by", x.by(false, 0), 2);
        // limits leave but the other BEND: steady there is none
        SixJoints y = Check.told("limit 3 -32 0;" + text);
        Check.due("plain", y.route(false), 4);
        Check.due("by", y.by(false, 0), 1);
        Check.due("steady", y.route(true), -2);
        Check.due("by", y.by(true, 0), -2);
        Check.due("at", y.at(true, 0, 0), -99);
        Check.due("blended", y.blended(true, 0, 0), -9999);
        Check.due("fastest", y.fastest(true, 0, true), -2);
        Check.due("misses", y.misses(true, 0, 0), -2);
        Check.due("roundest", y.roundest(true, 0), -2);
        Check.due("changes", y.changes(true, 0), -2);
        Check.due("travel", y.travel(true), -2);
        Check.due("slow", y.slow(true), -2);
        Check.due("clear", y.clear(true), -2);
        // all TICKS together are least, though the first MOVE is not
        SixJoints z = Check.told("speed 1 1;limit 5 0 63;rest 3 -2 4 8 2 10;spot a 3 1 4 8 2 10;spot b 3 29 4 8 2 10;"
            + "go a;go b;");
        // by TURN to 1, then by the posture the other way over: TURN -3, ROLL by 32
        Check.due("through SIDES", z.route(false), 3 + 8);
        Check.due("KEPT", z.route(true), 29 + 28);
        Check.due("by", z.by(true, 0), 0);
        z.set(1, -16);
        Check.due("through SIDES", z.route(false), 17 + 8);
        z.set(1, -20);
        Check.due("KEPT", z.route(true), 11 + 28);
        Check.due("the other way over", z.at(true, 11, 1), -31);
        Check.due("the other way over", z.at(true, 39, 1), -3);
    }

    private static void ties() {
        // ROLL 0 between -32 and 32: both TURNS' ROLLS alike, the first SOLUTION goes
        SixJoints x = Check.told("limit 1 0 31;limit 3 0 31;rest 3 16 4 8 2 0;spot a 3 16 4 8 2 32;go a;go a;");
        Check.due("TICKS", x.route(false), 8);
        Check.due("by", x.by(false, 0), 0);
        Check.due("by", x.by(false, 1), 0);
        Check.due("ROLL", x.at(false, 8, 5), -32);
        x.set(5, 1);
        Check.due("TICKS", x.route(false), 8);
        Check.due("by", x.by(false, 0), 1);
        Check.due("ROLL", x.at(false, 8, 5), 32);
        Check.due("no such i", x.by(false, 2), -1);
        Check.due("no such i", x.by(false, -1), -1);
    }

    private static void noRoute() {
        String none = "spot n 50 16 4 8 2 10;";
        String many = "spot m 5 7 3 -32 -19 0;";
        String fine = "spot f 5 16 4 8 2 10;";
        String rest = "limit 0 0 49;rest 3 16 4 8 2 10;";
        Check.due("none", Check.told(rest + none + many + "go n;").route(false), -2);
        Check.due("TOO MANY", Check.told(rest + none + many + "go m;").route(false), -3);
        Check.due("TOO MANY, then none", Check.told(rest + none + many + "go m;go n;").route(false), -2);
        Check.due("none, then TOO MANY", Check.told(rest + none + many + "go n;go m;").route(true), -2);
        Check.due("fine, then TOO MANY", Check.told(rest + fine + many + "go f;go m;").route(false), -3);
        // whatever else is so: no MOVE from a singular NOW is KEPT
        SixJoints x = Check.told(fine + many + "go f;go m;");
        Check.due("TOO MANY", x.route(true), -3);
        Check.due("by", x.by(true, 0), -3);
        Check.due("by(2)", x.by(true, 2), -1);
        Check.due("at", x.at(true, 0, 0), -99);
        Check.due("blended", x.blended(true, 0, 0), -9999);
        Check.due("fastest", x.fastest(true, 0, true), -3);
        Check.due("fastest of no JOINT", x.fastest(true, 6, true), -1);
        Check.due("misses", x.misses(true, 0, 0), -3);
        Check.due("misses of no i", x.misses(true, 2, 0), -1);
        Check.due("misses of no JOINT", x.misses(true, 0, 6), -1);
        Check.due("roundest", x.roundest(true, 0), -3);
        Check.due("roundest of no m", x.roundest(true, -1), -1);
        Check.due("changes", x.changes(true, 2), -3);
        Check.due("changes of no what", x.changes(true, 3), -1);
        Check.due("travel", x.travel(true), -3);
        Check.due("slow", x.slow(true), -3);
        Check.due("clear", x.clear(true), -3);
        SixJoints y = Check.told(fine + "go f;");
        Check.due("singular NOW", y.route(true), -2);
        Check.due("plain", y.route(false) >= 0, true);
        // a spot that is not on THE WAY is not asked
        Check.due("not on THE WAY", Check.told(rest + none + many + fine + "go f;").route(false), 1);
    }

    private static void emptyWay() {
        SixJoints x = Check.told("blend 3;rest 3 8 4 8 2 10;spot a 0 0 0 0 0 0;");
        for (boolean steady : new boolean[] {false, true}) {
            Check.due("route", x.route(steady), 0);
            Check.due("by", x.by(steady, 0), -1);
            Check.due("at", x.at(steady, 0, 5), 10);
            Check.due("at", x.at(steady, 1, 5), -99);
            Check.due("blended", x.blended(steady, 3, 5), 70);
            Check.due("blended", x.blended(steady, -3, 5), 70);
            Check.due("blended", x.blended(steady, 4, 5), -9999);
            Check.due("blended", x.blended(steady, -4, 5), -9999);
            Check.due("fastest", x.fastest(steady, 0, true), 0);
            Check.due("misses", x.misses(steady, 0, 0), -1);
            Check.due("roundest", x.roundest(steady, 0), 9);
            Check.due("changes", x.changes(steady, 0), 0);
            Check.due("travel", x.travel(steady), 0);
            Check.due("slow", x.slow(steady), 0);
            Check.due("clear", x.clear(steady), 499);
        }
    }

    // One SOLUTION each by limits: from RAIL 10 to 0 in 3 TICKS, then to 7 in 2, ROLL 0, 3, 1 along.
    private static SixJoints narrow(String more) {
        return Check.told(more + "limit 1 16 16;limit 2 4 4;limit 3 8 8;limit 5 0 31;rest 10 16 4 8 2 0;"
            + "spot a 0 16 4 8 2 3;spot b 7 16 4 8 2 1;go a;go b;");
    }

    private static void steps() {
        SixJoints x = narrow("");
        Check.due("route", x.route(false), 5);
        Check.due("steady", x.route(true), 5);
        int[] rail = {10, 7, 4, 0, 3, 7};
        int[] roll = {0, 1, 2, 3, 2, 1};
        for (int t = 0; t <= 5; t++) {
            Check.due("RAIL at " + t, x.at(false, t, 0), rail[t]);
            Check.due("ROLL at " + t, x.at(true, t, 5), roll[t]);
            Check.due("TURN at " + t, x.at(true, t, 1), 16);
        }
        Check.due("at(6)", x.at(false, 6, 0), -99);
        Check.due("at(-1)", x.at(false, -1, 0), -99);
        Check.due("no JOINT", x.at(false, 0, 6), -99);
        Check.due("no JOINT", x.at(false, 0, -1), -99);
    }

    private static void blending() {
        SixJoints x = narrow("");
        // blend 2: sums of five, ahead of 0 as at 0, behind the end as there
        int[] due = {50, 47, 41, 31, 24, 21, 21, 24, 31, 35};
        for (int t = -2; t <= 7; t++) {
            Check.due("blended at " + t, x.blended(false, t, 0), due[t + 2]);
        }
        Check.due("blended(-3)", x.blended(false, -3, 0), -9999);
        Check.due("blended(8)", x.blended(false, 8, 0), -9999);
        Check.due("blended, far off", x.blended(false, -2147483648, 0), -9999);
        Check.due("blended, far off", x.blended(false, 2147483647, 0), -9999);
        Check.due("no JOINT", x.blended(false, 0, 6), -9999);
        Check.due("fastest of STEPS", x.fastest(false, 0, false), 4);
        Check.due("fastest BLENDED", x.fastest(false, 0, true), 10);
        Check.due("fastest ROLL", x.fastest(true, 5, false), 1);
        Check.due("fastest of a JOINT at rest", x.fastest(true, 1, true), 0);
        Check.due("no JOINT", x.fastest(false, 6, true), -1);
        Check.due("no JOINT", x.fastest(false, -1, false), -1);
        SixJoints y = narrow("blend 0;");
        for (int t = 0; t <= 5; t++) {
            Check.due("blend 0", y.blended(false, t, 0), y.at(false, t, 0));
        }
        Check.due("blend 0", y.blended(false, 6, 0), -9999);
        Check.due("blend 0", y.blended(false, -1, 0), -9999);
        Check.due("fastest", y.fastest(false, 0, true), 4);
    }

    private static void rounding() {
        SixJoints x = narrow("");
        // CORNERS at 3, 5: RAIL 21 for 5 times 0, 24 for 5 times 7; ROLL 9 for 15, 8 for 5
        Check.due("misses", x.misses(false, 0, 0), 21);
        Check.due("misses", x.misses(false, 1, 0), 11);
        Check.due("misses", x.misses(false, 0, 5), 15 - 9);
        Check.due("misses", x.misses(false, 1, 5), 7 - 5 + 1);
        Check.due("misses", x.misses(false, 1, 3), 0);
        Check.due("no such i", x.misses(false, 2, 0), -1);
        Check.due("no such i", x.misses(false, -1, 0), -1);
        Check.due("no JOINT", x.misses(false, 0, 6), -1);
        // blend 0: 0; blend 1: 7 and 4 of 3 times m; blend 2: 21 of 5 times m; blend 3: 38 of 7 times m
        Check.due("m 0", x.roundest(false, 0), 0);
        Check.due("m 2", x.roundest(false, 2), 0);
        Check.due("m 3", x.roundest(false, 3), 1);
        Check.due("m 4", x.roundest(false, 4), 1);
        Check.due("m 5", x.roundest(false, 5), 2);
        Check.due("m 99", x.roundest(true, 99), 9);
        Check.due("m 100", x.roundest(true, 100), -1);
        Check.due("m -1", x.roundest(true, -1), -1);
        Check.due("blend stays", x.count(3), 2);
    }

    private static void changing() {
        SixJoints x = narrow("");
        Check.due("SIDE", x.changes(false, 0), 0);
        Check.due("BEND", x.changes(false, 1), 0);
        Check.due("ROLL turns once", x.changes(false, 2), 1);
        Check.due("what 3", x.changes(false, 3), -1);
        Check.due("what -1", x.changes(false, -1), -1);
        // SIDE 1, 0, -1 and back: four times; BEND 1, -1 skips 0: once
        SixJoints y = Check.told("limit 2 4 4;limit 5 0 31;limit 4 2 2;speed 1 1;rest 3 1 4 2 2 10;"
            + "spot a 3 -1 4 2 2 11;spot b 3 1 4 2 2 11;spot c 3 1 4 -2 2 8;go a;go b;go c;");
        Check.due("route", y.route(false), 5);
        Check.due("SIDE", y.changes(false, 0), 4);
        Check.due("BEND", y.changes(false, 1), 1);
        Check.due("ROLL rests, then turns", y.changes(false, 2), 1);
        Check.due("steady", y.changes(true, 0), -2);
    }

    private static void slowAndClear() {
        // MEASURE along TURN 1, 0, -1 by ELBOW 8: 69, 0, 69; back; then ELBOW 8 to 16 at TURN 1: 98
        SixJoints x = Check.told("limit 2 4 4;limit 4 2 2;limit 5 0 31;speed 1 1;rest 3 1 4 8 2 10;"
            + "spot a 3 -1 4 8 2 10;go a;");
        Check.due("route", x.route(false), 2);
        Check.due("slow", x.slow(false), 4 + 2);
        Check.due("clear", x.clear(false), 0);
        Check.due("slow, steady", x.slow(true), -2);
        x.set(1, 16);
        // TURN 16 .. -1: 17 ticks, MEASURE below 200 from TURN 4 on (271 at 4: 383 by 707), that of 3 is 205
        int sum = 0;
        int[] sine = {1000, 995, 981, 957, 924, 882, 831, 773, 707, 634, 556, 471, 383, 290, 195, 98, 0, 98};
        for (int t = 1; t <= 17; t++) {
            int measure = sine[t] * 707 / 1000;
            sum += measure < 50 ? 4 : measure < 200 ? 2 : 1;
        }
        Check.due("slow from 16", x.slow(false), sum);
        Check.due("slow by hand", x.slow(false), 13 + 2 + 2 + 4 + 2);
        SixJoints y = narrow("");
        Check.due("slow", y.slow(true), 5);
        Check.due("clear", y.clear(true), 707);
        // the first tick counts in the least MEASURE, but not in SLOW
        SixJoints z = Check.told("limit 2 4 4;limit 4 2 2;limit 5 0 31;rest 3 0 4 8 2 10;spot a 3 4 4 8 2 10;go a;");
        Check.due("slow", z.slow(false), 1);
        Check.due("clear", z.clear(false), 0);
    }

    private static void travelling() {
        SixJoints x = narrow("");
        Check.due("along the rail", x.travel(false), 17000000L);
        // z alone counts 1000 times: WRIST moves the hand
        SixJoints y = Check.told("limit 0 0 0;limit 1 0 0;limit 2 0 0;limit 3 0 0;limit 5 0 31;speed 4 8;rest 0 0 0 0 -8 0;"
            + "spot a 0 0 0 0 8 0;go a;");
        Check.due("route", y.route(false), 2);
        Check.due("up, out and in", y.travel(false), 2 * 1000L * 4 * 707 + 2 * 1000L * 4 * 293);
        Check.due("steady", y.travel(true), -2);
    }

    private static void afterChanges() {
        SixJoints x = narrow("");
        Check.due("route", x.route(false), 5);
        x.set(0, 0);
        Check.due("from elsewhere", x.route(false), 3);
        Check.due("at", x.at(false, 0, 0), 0);
        x.undo();
        Check.due("as it was", x.route(false), 5);
        Check.due("at", x.at(false, 0, 0), 10);
        Check.tell(x, "rest 0 16 4 8 2 3;spot a 99 16 4 8 2 3;go a;");
        Check.due("another TEXT", x.route(false), 25);
        Check.due("steady", x.route(true), 25);
        Check.due("THE WAY moves nothing", x.joint(0, 0), 0);
    }
}
