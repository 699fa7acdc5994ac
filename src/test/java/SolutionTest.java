/** Promises 14 to 20, and 39: the postures that hold a place, why none does, by chance. */
public final class SolutionTest {
    public static void main(String[] args) {
        ordinary();
        upwards();
        tooMany();
        whyNone();
        nearestAndClearest();
        taking();
        byChance();
        byDraws();
        Check.end("SolutionTest");
    }

    private static void solution(SixJoints x, int k, int... numbers) {
        for (int j = 0; j < 6; j++) {
            Check.due("solution(" + k + ", " + j + ")", x.solution(k, j), numbers[j]);
        }
    }

    private static void ordinary() {
        SixJoints x = Check.told("limit 5 0 63;rest 3 16 4 8 2 10;");
        // two arms' bends, the turn the other way over with both, each with one ROLL within limits
        Check.due("solutions", x.solutions(), 4);
        solution(x, 0, 3, -16, 20, 8, -10, 42);
        solution(x, 1, 3, -16, 28, -8, -2, 42);
        solution(x, 2, 3, 16, 4, 8, 2, 10);
        solution(x, 3, 3, 16, 12, -8, 10, 10);
        Check.due("solution(4, 0)", x.solution(4, 0), -99);
        Check.due("solution(-1, 0)", x.solution(-1, 0), -99);
        Check.due("solution(0, 6)", x.solution(0, 6), -99);
        Check.due("solution(0, -1)", x.solution(0, -1), -99);
        int[][] ways = {{-1, 1, 707, 8, 0}, {-1, -1, 707, 8, 0}, {1, 1, 707, 0, 1}, {1, -1, 707, 4, 0}};
        for (int k = 0; k < 4; k++) {
            for (int what = 0; what < 5; what++) {
                Check.due("way(" + k + ", " + what + ")", x.way(k, what), ways[k][what]);
            }
        }
        Check.due("way(0, 5)", x.way(0, 5), -9);
        Check.due("way(0, -1)", x.way(0, -1), -9);
        Check.due("way(4, 0)", x.way(4, 0), -9);
        Check.due("way(-1, 0)", x.way(-1, 0), -9);
        Check.due("why", x.why(), 0);
        // RAIL goes first in their order: TURN 0 and TURN -32 each hold it from two places of the rail
        SixJoints y = Check.told("limit 4 0 0;limit 5 0 63;rest 30 0 0 -32 0 0;");
        Check.due("solutions", y.solutions(), 4);
        solution(y, 0, 30, -32, -32, -32, 0, 32);
        solution(y, 1, 30, 0, 0, -32, 0, 0);
        solution(y, 2, 48, -32, 0, 0, 0, 32);
        solution(y, 3, 48, 0, -32, 0, 0, 0);
    }

    private static void upwards() {
        // PITCH 16: any TURN by which x and y are the same, HEADING and ROLL together the same
        SixJoints x = Check.told("limit 5 0 63;limit 2 8 8;rest 50 3 8 16 -8 5;");
        Check.due("OUT is 0", x.hand(6), 0);
        Check.due("PITCH is 16", x.hand(4), 16);
        Check.due("one a TURN", x.solutions(), 64);
        for (int k = 0; k < 64; k++) {
            solution(x, k, 50, k - 32, 8, 16, -8, (8 - (k - 32)) & 63);
        }
        // PITCH 48: HEADING less ROLL is the same
        SixJoints y = Check.told("limit 5 0 63;limit 2 8 8;rest 50 3 8 16 24 5;");
        Check.due("PITCH is 48", y.hand(4), 48);
        Check.due("one a TURN", y.solutions(), 64);
        for (int k = 0; k < 64; k++) {
            solution(y, k, 50, k - 32, 8, 16, 24, (k - 32 + 2) & 63);
        }
    }

    private static void tooMany() {
        // folded up and straight above the turn: any TURN, any SHOULDER, two ROLLS each
        SixJoints x = Check.told("rest 5 7 3 -32 -19 0;spot a 5 7 3 -32 -19 0;go a;");
        Check.due("PITCH", x.hand(4), 16);
        Check.due("solutions", x.solutions(), -3);
        Check.due("solution(0, 0)", x.solution(0, 0), -99);
        Check.due("way(0, 0)", x.way(0, 0), -9);
        Check.due("why", x.why(), 0);
        Check.due("nearest(false)", x.nearest(false), -3);
        // none of them is KEPT, and -2 goes ahead of -3
        Check.due("nearest(true)", x.nearest(true), -2);
        Check.due("clearest", x.clearest(), -3);
        Check.due("take(0)", x.take(0), false);
        Check.due("nothing to undo", x.count(6), 0);
        Check.due("route", x.route(false), -3);
        // 600 of them are not TOO MANY: 10 TURNS, 60 SHOULDERS; 610 are
        SixJoints y = Check.told("limit 1 0 9;limit 2 -30 29;limit 5 -40 23;rest 5 7 3 -32 -19 0;");
        Check.due("600", y.solutions(), 600);
        Check.due("solution(599, 1)", y.solution(599, 1), 9);
        SixJoints z = Check.told("limit 1 0 9;limit 2 -30 30;limit 5 -40 23;rest 5 7 3 -32 -19 0;");
        Check.due("610", z.solutions(), -3);
        SixJoints v = Check.told("limit 1 0 0;limit 2 0 0;limit 5 3 3;rest 5 7 3 -32 -19 0;");
        Check.due("by limits none", v.solutions(), 0);
    }

    private static void whyNone() {
        String rest = "rest 3 16 4 8 2 10;";
        SixJoints x = Check.told(rest);
        Check.due("some", x.why(), 0);
        x.aimBy(2, 10001);
        Check.due("no posture at all", x.why(), 1);
        x.aimBy(2, 1000000000);
        Check.due("far above", x.why(), 1);
        x.aimBy(2, -1000000000);
        x.aimBy(1, -1000000000);
        Check.due("far away", x.why(), 1);
        x.aimAt(-1);
        x.aimBy(0, -1000000);
        Check.due("RAIL below 0", x.why(), 2);
        x.aimBy(0, 100000000);
        Check.due("RAIL above 99", x.why(), 2);
        x.aimBy(0, 99000000);
        Check.due("RAIL 99", x.why(), 0);
        String[] limits = {"limit 0 4 99;", "limit 1 -15 15;", "limit 2 5 11;", "limit 3 -7 7;", "limit 4 3 9;",
            "limit 5 11 41;"};
        for (int j = 0; j < 6; j++) {
            Check.due("why by JOINT " + j, Check.told(limits[j] + rest).why(), j + 2);
        }
        // the first JOINT at which none is left, though no single limit leaves none
        Check.due("why by TURN and SHOULDER", Check.told("limit 1 0 31;limit 2 13 31;" + rest).why(), 4);
        Check.due("why by TURN and SHOULDER", Check.told("limit 1 -32 0;limit 2 -32 0;" + rest).why(), 4);
        Check.due("why by RAIL first", Check.told("limit 0 0 2;limit 5 11 11;" + rest).why(), 2);
    }

    private static void nearestAndClearest() {
        SixJoints x = Check.told("limit 5 0 63;rest 3 16 4 8 2 10;");
        Check.due("nearest", x.nearest(false), 2);
        Check.due("nearest, KEPT", x.nearest(true), 2);
        Check.due("clearest", x.clearest(), 0);
        x.set(3, -8);
        Check.due("nearest by ELBOW", x.nearest(false), 3);
        Check.due("nearest, KEPT, BEND -1", x.nearest(true), 3);
        x.set(3, 0);
        Check.due("nearest from a singular spot", x.nearest(false), 2);
        Check.due("none is KEPT", x.nearest(true), -2);
        x.set(3, 8);
        x.set(1, -1);
        Check.due("nearest by SIDE", x.nearest(true), 0);
        x.aimBy(2, 1);
        Check.due("none", x.nearest(false), -2);
        Check.due("none", x.nearest(true), -2);
        Check.due("none", x.clearest(), -2);
        // from one singular spot to another one no MOVE is KEPT
        SixJoints s = new SixJoints();
        Check.due("the same posture", s.way(3, 3), 0);
        Check.due("not KEPT", s.way(3, 4), 0);
        Check.due("none is KEPT", s.nearest(true), -2);
        // two ROLLS as near: the first
        SixJoints y = Check.told("limit 1 0 31;limit 3 0 31;rest 3 16 4 8 2 -32;");
        y.set(5, 0);
        Check.due("two", y.solutions(), 2);
        Check.due("the first", y.nearest(false), 0);
        // MEASURE differs where RAIL is changed by OUT: the clearest is not the first
        SixJoints z = Check.told("limit 5 0 63;rest 50 3 8 16 -8 5;");
        int best = z.clearest();
        for (int k = 0; k < z.solutions(); k++) {
            Check.due("no clearer", z.way(k, 2) < z.way(best, 2) || z.way(k, 2) == z.way(best, 2) && k >= best, true);
        }
        Check.due("clearest", z.way(best, 2), 1000);
    }

    private static void taking() {
        SixJoints x = Check.told("limit 5 0 63;rest 3 16 4 8 2 10;");
        Check.due("take(4)", x.take(4), false);
        Check.due("take(-1)", x.take(-1), false);
        Check.due("take(1)", x.take(1), true);
        Check.posture(x, 3, -16, 28, -8, -2, 42);
        for (int what = 0; what < 3; what++) {
            Check.due("the hand is where it was", x.hand(what), x.aim(what));
        }
        Check.due("solutions stay", x.solutions(), 4);
        // the same AIM by another TEXT
        SixJoints y = Check.told("limit 5 0 63;rest 3 16 4 8 2 10;");
        Check.due("solutions", y.solutions(), 4);
        Check.tell(y, "limit 5 0 31;rest 3 16 4 8 2 10;");
        Check.due("solutions by other limits", y.solutions(), 2);
        Check.due("no way", x.way(1, 3), 0);
        Check.due("undo", x.undo(), 0);
        Check.posture(x, 3, 16, 4, 8, 2, 10);
    }

    private static void byChance() {
        SixJoints x = Check.told("seed 123;");
        Check.due("seed -2", x.chance(-2, 1, 0), -1);
        Check.due("n 0", x.chance(0, 0, 0), -1);
        Check.due("n 21", x.chance(0, 21, 0), -1);
        Check.due("what 4", x.chance(0, 1, 4), -1);
        Check.due("what -1", x.chance(0, 1, -1), -1);
        for (int what = 0; what < 4; what++) {
            Check.due("that of the TEXT", x.chance(-1, 20, what), x.chance(123, 20, what));
        }
        Check.due("seed 0 is not that of the TEXT", x.chance(0, 20, 1) == x.chance(-1, 20, 1), false);
        Check.due("greatest seed", x.chance(2147483647, 20, 0) + x.chance(2147483647, 20, 2), 20);
        // limits of one number each: the same posture however it is drawn
        SixJoints y = Check.told("limit 0 3 3;limit 1 16 16;limit 2 4 4;limit 3 8 8;limit 4 2 2;limit 5 10 10;");
        Check.due("none with TOO MANY", y.chance(5, 7, 0), 0);
        Check.due("one each", y.chance(5, 7, 1), 7);
        Check.due("each among its own", y.chance(5, 7, 2), 7);
        Check.due("none is SINGULAR", y.chance(5, 7, 3), 0);
        SixJoints z = Check.told("limit 3 -32 -32;");
        Check.due("all are SINGULAR", z.chance(9, 20, 3), 20);
        SixJoints v = Check.told("limit 3 -32 -32;limit 2 3 3;limit 4 -19 -19;");
        Check.due("128 each", v.chance(9, 20, 1), 20 * 128);
        Check.due("state stays", v.count(6), 0);
        Check.posture(v, 0, 0, 0, 0, 0, 0);
    }

    // ROLL's SIGN shows in no answer, but TURN's and ELBOW's do: SINGULAR postures by a hand-written DRAW.
    private static void byDraws() {
        SixJoints x = Check.told("limit 1 -1 1;limit 3 0 2;limit 0 10 12;");
        int[] least = {10, -1, -32, 0, -32, -64};
        int[] numbers = {3, 3, 64, 3, 64, 128};
        for (int seed = 0; seed < 40; seed++) {
            long last = seed;
            int singular = 0;
            for (int n = 1; n <= 20; n++) {
                int[] p = new int[6];
                for (int j = 0; j < 6; j++) {
                    last = last * 1103515245L + 12345L & 0x7fffffffL;
                    p[j] = least[j] + (int) ((last >> 16) % numbers[j]);
                }
                singular += p[1] == 0 || p[3] == 0 ? 1 : 0;
                Check.due("SINGULAR of " + n, x.chance(seed, n, 3), singular);
            }
        }
    }
}
