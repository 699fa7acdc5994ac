/**
 * The sentences of the document's part 2 (COS, POSTURES, PLACES, ALIKE, SOLUTIONS, WHY, SINGULAR), of promises 8 to 20
 * and of promise 39 that name a boundary: each has a method of its own.
 */
public final class EdgePlaceTest {
    private static final int[] LOW = {0, -32, -32, -32, -32, -64};
    private static final int[] HIGH = {99, 31, 31, 31, 31, 63};
    private static final int[] QUARTER = {1000, 995, 981, 957, 924, 882, 831, 773, 707, 634, 556, 471, 383, 290, 195, 98, 0};
    /** By these limits one POSTURE alone holds its PLACE. */
    private static final int[] LONE = {3, 16, 4, 8, 2, 10};
    // any TURN 0 .. 9, any SHOULDER -30 .. 29 holds it folded up, by one ROLL each: 600; unfolded, RAIL 3 too: 601
    private static final String MANY = "link 1;limit 1 0 9;limit 2 -30 29;limit 3 -32 0;limit 5 -40 23;rest 5 7 3 -32 -19 0;"
        + "spot m 5 7 3 -32 -19 0;go m;";
    private static final String SIX_HUNDRED = "limit 0 4 99;" + MANY;
    private static final String ONE_MORE = "limit 0 3 99;" + MANY;

    public static void main(String[] args) {
        Check.all(EdgePlaceTest.class);
    }

    private static String lone(int joint, int least, int greatest) {
        StringBuilder s = new StringBuilder();
        for (int j = 0; j < 6; j++) {
            int low = j == joint ? least : LONE[j];
            int high = j == joint ? greatest : LONE[j];
            s.append("limit ").append(j).append(' ').append(low).append(' ').append(high).append(';');
        }
        return s + "rest 3 16 4 8 2 10;";
    }

    private static void solution(SixJoints x, int k, int... numbers) {
        for (int j = 0; j < 6; j++) {
            Check.due("solution(" + k + ", " + j + ")", x.solution(k, j), numbers[j]);
        }
    }

    // ---- numbers

    // "COS of 0 .. 16", "of 32 less k", "of less k"
    static void cos_everyAngle() {
        SixJoints x = Check.told("link 1;hand 1;height 1;");
        for (int k = -32; k <= 31; k++) {
            x.set(1, k);
            int size = k < 0 ? -k : k;
            int cosine = size <= 16 ? QUARTER[size] : -QUARTER[32 - size];
            Check.due("x at TURN " + k, x.hand(0), 3000L * cosine);
        }
    }

    // "SIN k: COS of k less 16"
    static void sin_everyAngle() {
        SixJoints x = Check.told("link 1;hand 1;height 1;");
        for (int k = -32; k <= 31; k++) {
            x.set(1, k);
            int size = k < 0 ? -k : k;
            int sine = QUARTER[size <= 16 ? 16 - size : size - 16];
            Check.due("y at TURN " + k, x.hand(1), 3000L * (k < 0 ? -sine : sine));
        }
    }

    // "of 64 more: the same": angles together from -96 to 93
    static void cos_of64More() {
        // A 31, B 62, PITCH 93
        SixJoints x = Check.told("rest 0 0 31 31 31 0;");
        Check.due("OUT", x.hand(6), 9 * (-995 + 981) + 4 * -957);
        Check.due("z", x.hand(2), 10000 + 9 * (98 - 195) + 4 * 290);
        Check.due("PITCH", x.hand(4), 29);
        // A -32, B -64, PITCH -96
        SixJoints y = Check.told("rest 0 0 -32 -32 -32 0;");
        Check.due("OUT", y.hand(6), -4000);
        Check.due("z", y.hand(2), 10000);
        Check.due("PITCH", y.hand(4), 32);
    }

    // "HEADING: TURN; PITCH; ROLL; these three modulo 64"
    static void place_modulo64() {
        SixJoints x = new SixJoints();
        for (int turn : new int[] {-32, -31, -1, 0, 1, 31}) {
            x.set(1, turn);
            Check.due("HEADING of " + turn, x.hand(3), turn < 0 ? turn + 64 : turn);
        }
        for (int roll : new int[] {-64, -63, -33, -32, -1, 0, 1, 31, 32, 63}) {
            x.set(5, roll);
            Check.due("ROLL of " + roll, x.hand(5), roll < 0 ? roll + 64 : roll);
        }
        x.set(2, 31);
        x.set(3, 31);
        int[][] ups = {{0, 62}, {1, 63}, {2, 0}, {3, 1}};
        for (int[] up : ups) {
            x.set(4, up[0]);
            Check.due("PITCH of 62 and " + up[0], x.hand(4), up[1]);
        }
        x.set(2, -32);
        x.set(3, -32);
        int[][] downs = {{1, 1}, {0, 0}, {-1, 63}, {-32, 32}};
        for (int[] down : downs) {
            x.set(4, down[0]);
            Check.due("PITCH of -64 and " + down[0], x.hand(4), down[1]);
        }
        x.set(2, 0);
        x.set(3, 0);
        x.set(4, -1);
        Check.due("PITCH of -1", x.hand(4), 63);
    }

    // the greatest and the least numbers of a PLACE
    static void place_farthest() {
        SixJoints x = Check.told("link 99;hand 99;height 99;rest 99 0 0 0 0 0;");
        Check.due("x", x.hand(0), 99000000L + 297000000L);
        x.set(0, 0);
        x.set(1, -32);
        Check.due("x", x.hand(0), -297000000L);
        x.set(1, 16);
        Check.due("y", x.hand(1), 297000000L);
        x.set(1, -16);
        Check.due("y", x.hand(1), -297000000L);
        x.set(2, 16);
        Check.due("z", x.hand(2), 99000 + 297000);
        x.set(2, -16);
        Check.due("z", x.hand(2), 99000 - 297000);
        SixJoints y = Check.told("link 1;hand 1;height 1;rest 0 0 -16 0 0 0;");
        Check.due("z", y.hand(2), 1000 - 3000);
    }

    // ---- ALIKE

    // "if PITCH is 16, HEADING and ROLL together": any TURN, each with its ROLL; by PITCH 15 and 17 the same TURN alone
    static void alike_pitch16() {
        // OUT is 0 by each: a TURN makes no difference to x and y
        int[][] byPitch = {{15, 1, -2, 1}, {16, 0, 0, 64}, {17, -1, 2, 1}};
        for (int[] by : byPitch) {
            SixJoints x = oneFold(by[1], by[2]);
            Check.due("OUT", x.hand(6), 0);
            Check.due("PITCH", x.hand(4), by[0]);
            Check.due("solutions by PITCH " + by[0], x.solutions(), by[3]);
        }
        SixJoints x = oneFold(0, 0);
        for (int k = 0; k < 64; k++) {
            int turn = k - 32;
            solution(x, k, 50, turn, 16, 0, 0, 3 + 5 - turn & 63);
        }
    }

    // "if it is 48, HEADING less ROLL": likewise, by PITCH 47 and 49 the same TURN alone
    static void alike_pitch48() {
        int[][] byPitch = {{47, -1, -32, 1}, {48, 0, -32, 64}, {49, 1, -32, 1}};
        for (int[] by : byPitch) {
            SixJoints x = oneFold(by[1], by[2]);
            Check.due("OUT", x.hand(6), 0);
            Check.due("PITCH", x.hand(4), by[0]);
            Check.due("solutions by PITCH " + by[0], x.solutions(), by[3]);
        }
        SixJoints x = oneFold(0, -32);
        for (int k = 0; k < 64; k++) {
            int turn = k - 32;
            solution(x, k, 50, turn, 16, 0, -32, turn - 3 + 5 & 63);
        }
    }

    private static SixJoints oneFold(int elbow, int wrist) {
        return Check.told("link 1;hand 1;limit 2 16 16;limit 3 " + elbow + " " + elbow + ";limit 4 " + wrist + " " + wrist
            + ";limit 5 0 63;rest 50 3 16 " + elbow + " " + wrist + " 5;");
    }

    // by PITCH 16 one HEADING more is one ROLL less; by 48 one HEADING more is one ROLL more
    static void alike_together() {
        for (int up = 0; up < 2; up++) {
            SixJoints x = oneFold(0, up == 0 ? 0 : -32);
            Check.due("solutions", x.solutions(), 64);
            int first = x.solution(0, 5);
            x.aimBy(3, 4);
            x.aimBy(5, up == 0 ? 4 : 6);
            Check.due("the same", x.solutions(), 64);
            Check.due("the same", x.solution(0, 5), first);
            x.aimBy(5, 5);
            Check.due("others", x.solutions(), 64);
            Check.due("others", x.solution(0, 5), first + (up == 0 ? 1 : -1) & 63);
        }
    }

    // "the same as HEADING and 32, 32 less PITCH, ROLL and 32"
    static void alike_theOtherWayOver() {
        SixJoints x = Check.told("limit 5 0 63;rest 3 16 4 8 2 10;");
        Check.due("solutions", x.solutions(), 4);
        int[] turns = new int[4];
        for (int k = 0; k < 4; k++) {
            turns[k] = x.solution(k, 1);
        }
        long[] other = {16 + 32, 32 - 14, 10 + 32};
        for (int what = 3; what < 6; what++) {
            x.aimBy(what, other[what - 3]);
        }
        Check.due("the same solutions", x.solutions(), 4);
        for (int k = 0; k < 4; k++) {
            Check.due("the same TURN", x.solution(k, 1), turns[k]);
        }
        // one of the three off by one, or not turned over
        for (int what = 3; what < 6; what++) {
            for (long off : new long[] {-1, 1, 32}) {
                x.aimBy(what, Math.floorMod(other[what - 3] + off, 64L));
                Check.due("aim(" + what + ") off by " + off, x.solutions(), what == 5 ? 4 : 0);
                x.undo();
            }
        }
    }

    // "all modulo 64": HEADING 32 is TURN -32, the other way over is TURN 0; ROLL 0 is -64 and 0
    static void alike_modulo64() {
        SixJoints x = Check.told("limit 2 4 4;limit 3 8 8;rest 30 -32 4 8 2 0;");
        Check.due("HEADING", x.aim(3), 32);
        Check.due("solutions", x.solutions(), 2);
        solution(x, 0, 30, -32, 4, 8, 2, -64);
        solution(x, 1, 30, -32, 4, 8, 2, 0);
        for (int roll : new int[] {-64, -1, 0, 63}) {
            SixJoints y = Check.told("limit 2 4 4;limit 3 8 8;rest 30 -32 4 8 2 " + roll + ";");
            Check.due("two ROLLS", y.solutions(), 2);
            Check.due("one", y.solution(0, 5), roll < 0 ? roll : roll - 64);
            Check.due("64 more", y.solution(1, 5), roll < 0 ? roll + 64 : roll);
        }
    }

    // "whose three others are the same": of all PITCHES the own one by the own TURN, 32 less it by the other way over
    static void alike_everyPitch() {
        // OUT is 0: x, y, z are the same by every TURN
        SixJoints x = Check.told("link 1;hand 1;limit 2 16 16;limit 3 15 15;limit 4 -32 -32;limit 5 0 63;rest 50 3 16 15 -32 7;");
        Check.due("OUT", x.hand(6), 0);
        Check.due("PITCH", x.hand(4), 63);
        for (int pitch = 0; pitch < 64; pitch++) {
            x.aimBy(4, pitch);
            Check.due("by PITCH " + pitch, x.solutions(), pitch == 63 || pitch == 33 ? 1 : 0);
            if (pitch == 63) {
                solution(x, 0, 50, 3, 16, 15, -32, 7);
            }
            if (pitch == 33) {
                solution(x, 0, 50, -29, 16, 15, -32, 39);
            }
        }
    }

    // "x, y, z the same": one off in each
    static void alike_samePlace() {
        for (int what = 0; what < 3; what++) {
            for (int off = -1; off <= 1; off++) {
                SixJoints x = Check.told(lone(-1, 0, 0));
                x.aimBy(what, x.aim(what) + off);
                Check.due("aim(" + what + ") off by " + off, x.solutions(), off == 0 ? 1 : 0);
                Check.due("why", x.why(), off == 0 ? 0 : 1);
            }
        }
    }

    // ---- SOLUTIONS, WHY

    // "all POSTURES within limits": each JOINT at its least, at its greatest, one beyond either
    static void solutions_atLimits() {
        for (int j = 0; j < 6; j++) {
            int v = LONE[j];
            Check.due("the greatest", Check.told(lone(j, LOW[j], v)).solution(0, j) == -99, false);
            Check.due("the least", Check.told(lone(j, v, HIGH[j])).solution(0, j) == -99, false);
            Check.due("both", Check.told(lone(j, v, v)).solutions(), 1);
            Check.due("one less", Check.told(lone(j, v - 1, v - 1)).solutions(), 0);
            Check.due("one more", Check.told(lone(j, v + 1, v + 1)).solutions(), 0);
        }
    }

    // "in the order of their JOINTS 0, then 1 and so on, the least first": RAIL at both ends of BOUNDS goes first
    static void solutions_inOrder() {
        SixJoints x = Check.told("link 24;limit 3 -1 1;limit 5 0 63;rest 0 0 0 0 16 0;");
        Check.due("solutions", x.solutions(), 4);
        solution(x, 0, 0, -32, -32, 0, -16, 32);
        solution(x, 1, 0, 0, 0, 0, 16, 0);
        solution(x, 2, 96, -32, 0, 0, 16, 32);
        solution(x, 3, 96, 0, -32, 0, -16, 0);
        SixJoints y = Check.told("link 24;limit 3 -1 1;limit 5 0 63;rest 99 0 -32 0 -16 7;");
        Check.due("solutions", y.solutions(), 4);
        solution(y, 0, 3, -32, -32, 0, -16, 39);
        solution(y, 1, 3, 0, 0, 0, 16, 7);
        solution(y, 2, 99, -32, 0, 0, 16, 39);
        solution(y, 3, 99, 0, -32, 0, -16, 7);
        // one TURN: then SHOULDER, ELBOW, ROLL
        SixJoints z = Check.told("limit 1 16 16;rest 3 16 4 8 2 10;");
        Check.due("solutions", z.solutions(), 4);
        solution(z, 0, 3, 16, 4, 8, 2, -54);
        solution(z, 1, 3, 16, 4, 8, 2, 10);
        solution(z, 2, 3, 16, 12, -8, 10, -54);
        solution(z, 3, 3, 16, 12, -8, 10, 10);
    }

    // by one SHOULDER two ELBOWS hold the same z: straight out and back along the rail
    static void solutions_elbowInOrder() {
        // A 0, B 0 or -32: OUT is 98000 or 0, and RAIL makes that good
        SixJoints x = Check.told("link 49;limit 1 0 0;limit 2 0 0;limit 5 0 63;rest 0 0 0 0 16 0;");
        Check.due("solutions", x.solutions(), 2);
        solution(x, 0, 0, 0, 0, 0, 16, 0);
        solution(x, 1, 98, 0, 0, -32, -16, 0);
    }

    // an AIM whose numbers are all 0, behind another one
    static void solutions_ofAllZeros() {
        SixJoints x = Check.told("link 5;hand 10;height 10;limit 5 0 63;rest 0 0 0 0 0 0;");
        Check.due("some", x.solutions() > 0, true);
        for (int what = 0; what < 6; what++) {
            x.aimBy(what, 0);
        }
        // z 0: both links straight down by 10000, PITCH 0, OUT 10000: RAIL -10
        Check.due("none", x.solutions(), 0);
        Check.due("RAIL is below 0", x.why(), 2);
        x.aimBy(0, 10000000);
        Check.due("RAIL 0", x.solutions() > 0, true);
        Check.due("SHOULDER", x.solution(0, 0), 0);
        x.undo();
        Check.due("none", x.solutions(), 0);
    }

    // an AIM that is another one in all six numbers, or in one of them alone
    static void solutions_ofAnotherAim() {
        SixJoints x = Check.told("limit 1 1 31;limit 2 4 4;limit 3 1 31;limit 5 0 63;spot a 3 16 4 8 2 10;spot b 5 15 4 7 1 11;");
        for (int i = 0; i < 4; i++) {
            x.aimAt(i % 2);
            Check.due("solutions", x.solutions(), 1);
            Check.due("RAIL", x.solution(0, 0), i % 2 == 0 ? 3 : 5);
        }
        x.aimAt(0);
        for (int what = 0; what < 6; what++) {
            x.aimBy(what, x.aim(what) ^ 1);
            Check.due("another aim(" + what + ")", x.solution(0, 5), what == 5 ? 11 : -99);
            x.undo();
            Check.due("as it was", x.solution(0, 5), 10);
        }
    }

    // "j and 2 of the first JOINT j": each JOINT, one beyond either limit
    static void why_eachJoint() {
        Check.due("some", Check.told(lone(-1, 0, 0)).why(), 0);
        for (int j = 0; j < 6; j++) {
            int v = LONE[j];
            Check.due("one less", Check.told(lone(j, v - 1, v - 1)).why(), j + 2);
            Check.due("one more", Check.told(lone(j, v + 1, v + 1)).why(), j + 2);
        }
    }

    // "(RAIL any whole number ahead)": -1 and 100 are none of BOUNDS, but whole; a part of one is none
    static void why_rail() {
        String text = "limit 1 16 16;limit 2 4 4;limit 3 8 8;limit 5 0 63;rest 3 16 4 8 2 10;";
        SixJoints x = Check.told(text);
        long[][] due = {{-1000000, 2}, {-999999, 1}, {-1, 1}, {0, 0}, {1, 1}, {999999, 1}, {1000000, 0}, {99000000, 0},
            {99000001, 1}, {100000000, 2}, {1000000000, 2}, {-1000000000, 2}};
        for (long[] d : due) {
            x.aimBy(0, d[0]);
            Check.due("x " + d[0], x.why(), d[1]);
            Check.due("solutions by x " + d[0], x.solutions() > 0, d[1] == 0);
        }
        // limits of RAIL within BOUNDS: at the least, one below it, at the greatest, one above it
        SixJoints y = Check.told("limit 0 10 20;" + text);
        int[][] rails = {{9, 2}, {10, 0}, {20, 0}, {21, 2}};
        for (int[] r : rails) {
            y.aimBy(0, 1000000L * r[0]);
            Check.due("RAIL " + r[0], y.why(), r[1]);
        }
    }

    // "no POSTURE is ALIKE": 1, though a limit is beyond as well
    static void why_noneAlike() {
        SixJoints x = Check.told("limit 0 50 60;limit 1 -16 -16;rest 3 16 4 8 2 10;");
        Check.due("by RAIL", x.why(), 2);
        x.aimBy(2, x.aim(2) + 1);
        Check.due("none at all", x.why(), 1);
        x.undo();
        x.aimBy(0, 51000000);
        Check.due("by TURN 16; -16 has the SHOULDERS within limits", x.why(), 0);
        for (long far : new long[] {-1000000000, 1000000000}) {
            for (int what = 1; what < 3; what++) {
                x.aimBy(what, far);
                Check.due("far off", x.why(), 1);
                x.undo();
            }
        }
    }

    // "if there are more than 600, they are TOO MANY": 600, 601
    static void tooMany_sixHundred() {
        SixJoints x = Check.told(SIX_HUNDRED);
        Check.due("solutions", x.solutions(), 600);
        Check.due("solution(599, 1)", x.solution(599, 1), 9);
        Check.due("solution(599, 2)", x.solution(599, 2), 29);
        Check.due("solution(600, 1)", x.solution(600, 1), -99);
        Check.due("way(599, 2)", x.way(599, 2), 0);
        Check.due("way(600, 2)", x.way(600, 2), -9);
        Check.due("why", x.why(), 0);
        Check.due("nearest", x.solution(x.nearest(false), 1), 7);
        Check.due("nearest", x.way(x.nearest(false), 3), 0);
        Check.due("clearest", x.clearest(), 0);
        Check.due("take(600)", x.take(600), false);
        Check.due("take(599)", x.take(599), true);
        Check.due("route", x.route(false) >= 0, true);
        SixJoints y = Check.told(ONE_MORE);
        Check.due("solutions", y.solutions(), -3);
        Check.due("solution(0, 0)", y.solution(0, 0), -99);
        Check.due("solution(600, 0)", y.solution(600, 0), -99);
        for (int what = 0; what < 5; what++) {
            Check.due("way(0, " + what + ")", y.way(0, what), -9);
        }
        Check.due("why", y.why(), 0);
        Check.due("nearest", y.nearest(false), -3);
        Check.due("clearest", y.clearest(), -3);
        Check.due("take(0)", y.take(0), false);
        Check.due("route", y.route(false), -3);
        Check.due("by", y.by(false, 0), -3);
    }

    // the one more than 600 is there: by limits that leave it with few others
    static void tooMany_theOneMore() {
        SixJoints x = Check.told("link 1;limit 0 3 4;limit 1 0 9;limit 2 -30 29;limit 3 -32 0;limit 5 -40 23;rest 5 7 3 -32 -19 0;");
        Check.due("solutions", x.solutions(), 1);
        solution(x, 0, 3, 0, 0, 0, 16, 7);
    }

    // ---- SIDE, BEND, MEASURE, SINGULAR

    // "1, if SIN TURN is above 0, -1 below, 0"
    static void side_edges() {
        SixJoints x = Check.told("rest 0 0 0 8 0 0;");
        int[][] due = {{-32, 0}, {-31, -1}, {-1, -1}, {0, 0}, {1, 1}, {31, 1}};
        for (int[] d : due) {
            x.set(1, d[0]);
            Check.due("SIDE of " + d[0], x.now(0), d[1]);
            Check.due("BEND stays", x.now(1), 1);
        }
    }

    // "BEND: likewise SIN ELBOW"
    static void bend_edges() {
        SixJoints x = Check.told("rest 0 8 0 0 0 0;");
        int[][] due = {{-32, 0}, {-31, -1}, {-1, -1}, {0, 0}, {1, 1}, {31, 1}};
        for (int[] d : due) {
            x.set(3, d[0]);
            Check.due("BEND of " + d[0], x.now(1), d[1]);
            Check.due("SIDE stays", x.now(0), 1);
        }
    }

    // "by 1000, without sign, downwards"
    static void measure_edges() {
        SixJoints x = new SixJoints();
        // 98 by 98 is 9604; 707 by 707 is 499849; 995 by 995 is 990025
        int[][] due = {{1, 1, 9}, {-1, 1, 9}, {1, -1, 9}, {-1, -1, 9}, {31, -31, 9}, {8, 8, 499}, {-8, 8, 499}, {8, -8, 499},
            {15, 15, 990}, {17, -15, 990}, {16, 16, 1000}, {-16, 16, 1000}, {16, 1, 98}, {1, -16, 98}};
        for (int[] d : due) {
            x.set(1, d[0]);
            x.set(3, d[1]);
            Check.due("MEASURE of " + d[0] + ", " + d[1], x.now(2), d[2]);
        }
    }

    // "SINGULAR: MEASURE is 0": by TURN or ELBOW 0, -32; not by one beside them
    static void singular_edges() {
        int[] angles = {-32, -31, -1, 0, 1, 31};
        for (int turn : angles) {
            for (int elbow : angles) {
                boolean singular = turn % 32 == 0 || elbow % 32 == 0;
                SixJoints x = Check.told("limit 1 " + turn + " " + turn + ";limit 3 " + elbow + " " + elbow + ";");
                Check.due("SINGULAR " + turn + ", " + elbow, x.chance(1, 1, 3), singular ? 1 : 0);
                x.set(1, turn);
                x.set(3, elbow);
                Check.due("MEASURE", x.now(2) == 0, singular);
            }
        }
    }

    // ---- promises 8 to 13

    // "false: no such JOINT, not within its limits"
    static void p08_set() {
        SixJoints x = Check.told("limit 0 3 5;limit 1 -4 -2;limit 2 0 0;limit 3 -32 31;limit 4 -1 1;limit 5 -64 63;");
        int[] low = {3, -4, 0, -32, -1, -64};
        int[] high = {5, -2, 0, 31, 1, 63};
        int undone = 0;
        for (int j = 0; j < 6; j++) {
            Check.due("below", x.set(j, low[j] - 1), false);
            Check.due("least", x.set(j, low[j]), true);
            Check.due("as set", x.joint(j, 0), low[j]);
            Check.due("above", x.set(j, high[j] + 1), false);
            Check.due("as it was", x.joint(j, 0), low[j]);
            Check.due("greatest", x.set(j, high[j]), true);
            Check.due("as set", x.joint(j, 0), high[j]);
            Check.due("far below", x.set(j, -2147483648), false);
            Check.due("far above", x.set(j, 2147483647), false);
            Check.due("256 more", x.set(j, low[j] + 256), false);
            undone += 2;
            Check.due("what can be undone", x.count(6), undone);
        }
        for (int joint : new int[] {-2147483648, -1, 6, 2147483647}) {
            Check.due("set(" + joint + ")", x.set(joint, 0), false);
        }
        Check.due("what can be undone", x.count(6), undone);
    }

    // "0 for another what"
    static void p09_hand() {
        SixJoints x = Check.told("rest 1 8 4 8 2 10;");
        for (int what = 0; what < 7; what++) {
            Check.due("hand(" + what + ")", x.hand(what) == 0, false);
        }
        for (int what : new int[] {-2147483648, -1, 7, 2147483647}) {
            Check.due("hand(" + what + ")", x.hand(what), 0);
        }
    }

    // "3 how many JOINTS are beyond their limits": at either limit, one beyond; "-9 for another what"
    static void p10_now() {
        for (int j = 0; j < 6; j++) {
            for (int v = 9; v <= 14; v++) {
                String rest = "";
                for (int k = 0; k < 6; k++) {
                    rest += " " + (k == j ? v : 0);
                }
                SixJoints x = Check.told("limit " + j + " 10 13;rest" + rest + ";");
                Check.due("JOINT " + j + " at " + v, x.now(3), v < 10 || v > 13 ? 1 : 0);
            }
        }
        SixJoints x = Check.told("rest 1 8 4 8 2 10;");
        for (int what : new int[] {-2147483648, -1, 4, 2147483647}) {
            Check.due("now(" + what + ")", x.now(what), -9);
        }
    }

    // "0 for another what"
    static void p11_aim() {
        SixJoints x = Check.told("rest 1 8 4 8 2 10;");
        for (int what = 0; what < 6; what++) {
            Check.due("aim(" + what + ")", x.aim(what), x.hand(what));
            Check.due("aim(" + what + ")", x.aim(what) == 0, false);
        }
        for (int what : new int[] {-2147483648, -1, 6, 2147483647}) {
            Check.due("aim(" + what + ")", x.aim(what), 0);
        }
    }

    // "of NOW (NONE): true; false: no such one"
    static void p12_aimAt() {
        SixJoints x = Check.told("rest 1 0 0 0 0 0;spot a 2 0 0 0 0 0;spot b 3 0 0 0 0 0;");
        int[][] due = {{-2147483648, 0, 23}, {-2, 0, 23}, {-1, 1, 23}, {0, 1, 24}, {1, 1, 25}, {2, 0, 25}, {2147483647, 0, 25}};
        int undone = 0;
        for (int[] d : due) {
            Check.due("aimAt(" + d[0] + ")", x.aimAt(d[0]), d[1] == 1);
            Check.due("x", x.aim(0), 1000000L * d[2]);
            undone += d[1];
            Check.due("what can be undone", x.count(6), undone);
        }
        SixJoints y = new SixJoints();
        Check.due("without spots", y.aimAt(0), false);
        Check.due("NONE without spots", y.aimAt(-1), true);
    }

    // "what 0 .. 2: v from -1000000000 to 1000000000"
    static void p13_aimByPlace() {
        for (int what = 0; what < 3; what++) {
            SixJoints x = new SixJoints();
            long as = x.aim(what);
            for (long v : new long[] {Long.MIN_VALUE, -4294967296L, -1000000001L, 1000000001L, 4294967296L, Long.MAX_VALUE}) {
                Check.due("aimBy(" + what + ", " + v + ")", x.aimBy(what, v), false);
                Check.due("as it was", x.aim(what), as);
            }
            for (long v : new long[] {-1000000000L, -1, 0, 1, 1000000000L}) {
                Check.due("aimBy(" + what + ", " + v + ")", x.aimBy(what, v), true);
                Check.due("as aimed", x.aim(what), v);
            }
            Check.due("what can be undone", x.count(6), 5);
        }
    }

    // "3 .. 5: v 0 .. 63"
    static void p13_aimByAngles() {
        for (int what = 3; what < 6; what++) {
            SixJoints x = new SixJoints();
            for (long v : new long[] {0, 1, 62, 63}) {
                Check.due("aimBy(" + what + ", " + v + ")", x.aimBy(what, v), true);
                Check.due("as aimed", x.aim(what), v);
            }
            for (long v : new long[] {Long.MIN_VALUE, -64, -1, 64, 4294967296L, Long.MAX_VALUE}) {
                Check.due("aimBy(" + what + ", " + v + ")", x.aimBy(what, v), false);
                Check.due("as it was", x.aim(what), 63);
            }
            Check.due("what can be undone", x.count(6), 4);
        }
    }

    // "false: no such ones"
    static void p13_aimByNoSuch() {
        SixJoints x = new SixJoints();
        for (int what : new int[] {-2147483648, -1, 6, 2147483647}) {
            Check.due("aimBy(" + what + ")", x.aimBy(what, 0), false);
        }
        Check.due("what can be undone", x.count(6), 0);
    }

    // ---- promises 14 to 20

    // none, one
    static void p14_solutions() {
        SixJoints x = Check.told(lone(-1, 0, 0));
        Check.due("one", x.solutions(), 1);
        x.aimBy(5, 11);
        Check.due("none", x.solutions(), 0);
    }

    // "-99: there are not so many, TOO MANY, no such JOINT"
    static void p15_solution() {
        SixJoints x = Check.told("limit 5 0 63;rest 3 16 4 8 2 10;");
        for (int k : new int[] {-2147483648, -1, 0, 3, 4, 600, 2147483647}) {
            for (int joint : new int[] {-2147483648, -1, 0, 5, 6, 2147483647}) {
                boolean such = (k == 0 || k == 3) && (joint == 0 || joint == 5);
                int due = joint == 0 ? 3 : k == 0 ? 42 : 10;
                Check.due("solution(" + k + ", " + joint + ")", x.solution(k, joint), such ? due : -99);
            }
        }
        x.aimBy(2, 1);
        Check.due("of none", x.solution(0, 0), -99);
    }

    // "-9: there are not so many, TOO MANY, no such what"
    static void p16_way() {
        SixJoints x = Check.told("limit 5 0 63;rest 3 16 4 8 2 10;");
        for (int k : new int[] {-2147483648, -1, 0, 3, 4, 600, 2147483647}) {
            for (int what : new int[] {-2147483648, -1, 0, 1, 2, 3, 4, 5, 2147483647}) {
                boolean such = (k == 0 || k == 3) && what >= 0 && what < 5;
                Check.due("way(" + k + ", " + what + ")", x.way(k, what) == -9, !such);
            }
        }
        x.aimBy(2, 1);
        Check.due("of none", x.way(0, 0), -9);
    }

    // "0: it has some, or TOO MANY"
    static void p17_why() {
        Check.due("one", Check.told(lone(-1, 0, 0)).why(), 0);
        Check.due("600", Check.told(SIX_HUNDRED).why(), 0);
        Check.due("TOO MANY", Check.told(ONE_MORE).why(), 0);
    }

    // "the fewest TICKS, the first": one TICK fewer goes ahead, as many do not
    static void p18_nearestTies() {
        // ROLL -32 and 32, and NOW's ROLL between them
        SixJoints x = Check.told("limit 1 16 16;limit 2 4 4;limit 3 8 8;speed 5 1;rest 3 16 4 8 2 -32;");
        Check.due("solutions", x.solutions(), 2);
        int[][] due = {{-32, 0}, {-1, 0}, {0, 0}, {1, 1}, {32, 1}};
        for (int[] d : due) {
            x.set(5, d[0]);
            Check.due("from ROLL " + d[0], x.nearest(false), d[1]);
            Check.due("KEPT from ROLL " + d[0], x.nearest(true), d[1]);
        }
        // by speed 4 the TICKS of 31 and of 33 are 8 and 9, those of 32 and 32 are 8
        SixJoints y = Check.told("limit 1 16 16;limit 2 4 4;limit 3 8 8;rest 3 16 4 8 2 -32;");
        int[][] byFour = {{0, 0}, {1, 1}, {3, 1}, {4, 1}};
        for (int[] d : byFour) {
            y.set(5, d[0]);
            Check.due("by speed 4 from ROLL " + d[0], y.nearest(false), d[1]);
        }
    }

    // "of those alone that are KEPT (steady)": by SIDE, by BEND, neither SINGULAR
    static void p18_nearestKept() {
        SixJoints x = Check.told("limit 5 0 63;rest 3 16 4 8 2 10;");
        int[][] due = {{-1, 1, 0}, {-1, -1, 1}, {1, 1, 2}, {1, -1, 3}, {31, 31, 2}, {-31, -31, 1}, {0, 1, -2}, {1, 0, -2},
            {-32, 1, -2}, {1, -32, -2}, {0, 0, -2}};
        for (int[] d : due) {
            x.set(1, d[0]);
            x.set(3, d[1]);
            Check.due("KEPT from TURN " + d[0] + ", ELBOW " + d[1], x.nearest(true), d[2]);
            for (int k = 0; k < 4; k++) {
                Check.due("way(" + k + ", 4)", x.way(k, 4), k == d[2] ? 1 : 0);
            }
            Check.due("some is nearest", x.nearest(false) >= 0, true);
        }
    }

    // "-2: there is none; -3: TOO MANY"; -2 goes first where both hold
    static void p18_nearestNone() {
        SixJoints x = Check.told(lone(-1, 0, 0));
        Check.due("the only one", x.nearest(false), 0);
        Check.due("the only one", x.nearest(true), 0);
        x.aimBy(5, 11);
        Check.due("none", x.nearest(false), -2);
        Check.due("none", x.nearest(true), -2);
        SixJoints y = Check.told(ONE_MORE);
        Check.due("TOO MANY", y.nearest(false), -3);
        Check.due("TOO MANY, but none of them KEPT", y.nearest(true), -2);
    }

    // "whose MEASURE is greatest, the first"
    static void p19_clearest() {
        SixJoints x = Check.told("limit 5 0 63;rest 3 16 4 8 2 10;");
        for (int k = 0; k < 4; k++) {
            Check.due("all alike", x.way(k, 2), 707);
        }
        Check.due("the first", x.clearest(), 0);
        // straight up: TURN -16 and 16 are the clearest, by ELBOW 16 or less -16: the first goes
        SixJoints y = Check.told("limit 5 0 63;limit 2 8 8;rest 50 3 8 16 -8 5;");
        Check.due("TURN", y.solution(y.clearest(), 1), -16);
        Check.due("the first", y.clearest(), 16);
        y.aimBy(2, 1);
        Check.due("none", y.clearest(), -2);
        Check.due("one, SINGULAR", Check.told("limit 1 0 0;limit 2 4 4;limit 3 0 0;limit 5 0 63;rest 0 0 4 0 0 0;").clearest(), 0);
    }

    // "false: there are not so many, TOO MANY"
    static void p20_take() {
        SixJoints x = Check.told("limit 5 0 63;rest 3 16 4 8 2 10;");
        for (int k : new int[] {-2147483648, -1, 4, 5, 600, 2147483647}) {
            Check.due("take(" + k + ")", x.take(k), false);
            Check.posture(x, 3, 16, 4, 8, 2, 10);
            Check.due("what can be undone", x.count(6), 0);
        }
        Check.due("take(3)", x.take(3), true);
        Check.posture(x, 3, 16, 12, -8, 10, 10);
        Check.due("take(0)", x.take(0), true);
        Check.posture(x, 3, -16, 20, 8, -10, 42);
        Check.due("what can be undone", x.count(6), 2);
        x.aimBy(2, 1);
        Check.due("of none", x.take(0), false);
    }

    // ---- promise 39

    // "n 1 .. 20 from a seed 0 .. 2147483647 on (-1: that of the TEXT)"; "NONE: no such ones"
    static void p39_chanceEdges() {
        SixJoints x = Check.told("seed 5;");
        for (int seed : new int[] {-2147483648, -2, -1, 0, 1, 2147483646, 2147483647}) {
            for (int n : new int[] {-2147483648, -1, 0, 1, 20, 21, 2147483647}) {
                for (int what : new int[] {-2147483648, -1, 0, 3, 4, 2147483647}) {
                    boolean such = seed >= -1 && (n == 1 || n == 20) && (what == 0 || what == 3);
                    int got = x.chance(seed, n, what);
                    Check.due("chance(" + seed + ", " + n + ", " + what + ")", such ? got >= 0 && got <= n : got == -1, true);
                }
            }
        }
        for (int what = 0; what < 4; what++) {
            Check.due("that of the TEXT", x.chance(-1, 20, what), x.chance(5, 20, what));
        }
    }

    // "without what is above 31 bits", "rounded down", "modulo what is said": from seeds at both ends
    static void p39_draws() {
        SixJoints x = Check.told("limit 0 7 7;limit 1 -1 1;limit 2 -3 3;limit 3 -2 2;limit 4 5 5;limit 5 -64 63;");
        int[] low = {7, -1, -3, -2, 5, -64};
        int[] many = {1, 3, 7, 5, 1, 128};
        for (int seed : new int[] {0, 1, 2, 65535, 65536, 99999, 1073741823, 1073741824, 2147483646, 2147483647}) {
            java.math.BigInteger last = java.math.BigInteger.valueOf(seed);
            int singular = 0;
            for (int n = 1; n <= 20; n++) {
                int[] p = new int[6];
                for (int j = 0; j < 6; j++) {
                    last = last.multiply(java.math.BigInteger.valueOf(1103515245)).add(java.math.BigInteger.valueOf(12345))
                        .mod(java.math.BigInteger.ONE.shiftLeft(31));
                    p[j] = low[j] + last.shiftRight(16).mod(java.math.BigInteger.valueOf(many[j])).intValue();
                }
                singular += p[1] == 0 || p[3] == 0 ? 1 : 0;
                Check.due("SINGULAR of " + n + " by " + seed, x.chance(seed, n, 3), singular);
            }
        }
    }

    // one number within each limit: the same POSTURE however it is drawn, and its PLACE is held by it alone
    static void p39_oneNumberEach() {
        SixJoints x = Check.told(lone(-1, 0, 0));
        for (int n : new int[] {1, 2, 19, 20}) {
            int[] due = {0, n, n, 0};
            for (int what = 0; what < 4; what++) {
                Check.due("chance(7, " + n + ", " + what + ")", x.chance(7, n, what), due[what]);
            }
        }
    }

    // "0 how many have a PLACE with TOO MANY, 1 SOLUTIONS of the others in all, 2 how many of the others": at 600, 601
    static void p39_tooMany() {
        // folded up, PITCH 16 by TURN 0, SHOULDER -32 .. 31 and WRIST that fits: of all that are drawn a few
        String text = "link 1;limit 3 -32 -32;limit 4 -32 31;limit 2 ";
        for (int high : new int[] {-28, -27}) {
            // 64 TURNS, two ROLLS each: 4 SHOULDERS are 512, 5 are 640
            SixJoints x = Check.told(text + "-31 " + high + ";");
            int tooMany = 0;
            int held = 0;
            for (int seed = 0; seed < 40; seed++) {
                tooMany += x.chance(seed, 20, 0);
                held += x.chance(seed, 20, 2);
                Check.due("the others", x.chance(seed, 20, 0) + x.chance(seed, 20, 2), 20);
            }
            Check.due("some with TOO MANY", tooMany > 0, high == -27);
            Check.due("all", tooMany + held, 800);
        }
    }
}
