/**
 * The sentences of the document's part 4 (NOW, AIM, what can be undone, IMAGE, which answer goes first), of promises
 * 37, 38, 40 to 43 and on how long an object is used that name a boundary: each has a method of its own.
 */
public final class EdgeStateTest {
    private static final int NONE_THERE = -2147483648;

    public static void main(String[] args) {
        Check.all(EdgeStateTest.class);
    }

    // ---- part 4

    // "NOW: a POSTURE (at first rest; it may be beyond limits then)"
    static void now_restBeyondLimits() {
        SixJoints x = Check.told("limit 0 10 20;limit 1 1 2;rest 9 3 0 0 0 0;");
        Check.posture(x, 9, 3, 0, 0, 0, 0);
        Check.due("beyond", x.now(3), 2);
        // another JOINT can be set all the same, the two by their limits alone
        Check.due("set(2, 1)", x.set(2, 1), true);
        Check.due("set(0, 9)", x.set(0, 9), false);
        Check.due("set(1, 3)", x.set(1, 3), false);
        Check.due("set(0, 10)", x.set(0, 10), true);
        Check.due("beyond", x.now(3), 1);
        Check.due("undo", x.undo(), 1);
        Check.posture(x, 9, 3, 1, 0, 0, 0);
        // its own PLACE is not held by it
        SixJoints y = Check.told("limit 0 4 99;limit 1 16 16;limit 2 4 4;limit 3 8 8;limit 5 0 63;rest 3 16 4 8 2 10;");
        Check.due("solutions", y.solutions(), 0);
        Check.due("why", y.why(), 2);
    }

    // "AIM: a PLACE (at first NOW's)": setting NOW leaves it
    static void aim_atFirst() {
        SixJoints x = Check.told("rest 3 16 4 8 2 10;");
        for (int what = 0; what < 6; what++) {
            Check.due("aim(" + what + ")", x.aim(what), x.hand(what));
        }
        long was = x.aim(0);
        x.set(0, 4);
        Check.due("stays", x.aim(0), was);
        Check.due("the hand has gone", x.hand(0), was + 1000000);
    }

    // "Setting, taking, aiming by call can be undone, the latest first": NOW and AIM are as they were
    static void undone_eachKind() {
        SixJoints x = Check.told("limit 5 0 63;rest 3 16 4 8 2 10;spot a 1 2 3 4 5 6;");
        long aimX = x.aim(0);
        x.set(0, 7);
        x.take(0);
        x.aimAt(0);
        x.aimBy(0, 5);
        x.aimAt(-1);
        Check.due("five", x.count(6), 5);
        Check.due("aimAt(NONE)", x.undo(), 4);
        Check.due("AIM", x.aim(0), 5);
        Check.due("aimBy", x.undo(), 3);
        Check.due("AIM is a's", x.aim(3), 2);
        Check.due("aimAt", x.undo(), 2);
        Check.due("AIM", x.aim(0), aimX);
        Check.posture(x, 3, -16, 20, 8, -10, 42);
        Check.due("take", x.undo(), 1);
        Check.posture(x, 7, 16, 4, 8, 2, 10);
        Check.due("set", x.undo(), 0);
        Check.posture(x, 3, 16, 4, 8, 2, 10);
        Check.due("none left", x.undo(), -1);
    }

    // "by call": what asks, fails, keeps or feeds leaves nothing to undo
    static void undone_nothingElse() {
        SixJoints x = Check.told("limit 5 0 63;rest 3 16 4 8 2 10;spot a 3 16 4 8 2 11;go a;");
        x.set(0, 100);
        x.set(6, 0);
        x.aimAt(1);
        x.aimAt(-2);
        x.aimBy(0, 1000000001);
        x.aimBy(6, 0);
        x.take(4);
        x.take(-1);
        x.keep();
        x.feed(0, 0, 0, 0, 0);
        x.text(21);
        x.route(false);
        x.route(true);
        x.nearest(true);
        x.clearest();
        x.tour();
        x.step(0, 1, 0);
        x.chance(1, 20, 1);
        x.high(0);
        x.reach(0, 2);
        x.undo();
        Check.due("nothing", x.count(6), 0);
        Check.due("none", x.undo(), -1);
        Check.posture(x, 3, 16, 4, 8, 2, 10);
    }

    // "(20 at most)": 19, 20, 21, 41
    static void undone_twentyAtMost() {
        for (int calls : new int[] {0, 1, 19, 20, 21, 39, 40, 41}) {
            SixJoints x = new SixJoints();
            for (int i = 1; i <= calls; i++) {
                x.set(0, i);
                Check.due("what can be undone", x.count(6), Math.min(20, i));
            }
            int can = Math.min(20, calls);
            for (int left = can - 1; left >= 0; left--) {
                Check.due("undo", x.undo(), left);
                Check.due("RAIL", x.joint(0, 0), calls - can + left);
            }
            Check.due("none", x.undo(), -1);
            Check.due("RAIL stays", x.joint(0, 0), calls - can);
            // then again from there
            x.set(0, 99);
            Check.due("undo", x.undo(), 0);
            Check.due("RAIL", x.joint(0, 0), calls - can);
        }
    }

    // "Of several answers that hold NONE goes first, then -2, then -3"
    static void order_noneFirst() {
        String many = "limit 0 0 49;spot m 5 7 3 -32 -19 0;";
        String none = "spot n 50 16 4 8 2 10;";
        SixJoints two = Check.told(many + none + "go m;go n;");
        SixJoints three = Check.told(many + none + "go m;");
        for (boolean steady : new boolean[] {false, true}) {
            Check.due("by", two.by(steady, 2), -1);
            Check.due("by", two.by(steady, 1), -2);
            Check.due("by", three.by(steady, 1), -1);
            Check.due("by", three.by(steady, 0), -3);
            Check.due("fastest", two.fastest(steady, 6, true), -1);
            Check.due("fastest", two.fastest(steady, 5, true), -2);
            Check.due("fastest", three.fastest(steady, 5, false), -3);
            Check.due("misses", two.misses(steady, 2, 0), -1);
            Check.due("misses", two.misses(steady, 1, 6), -1);
            Check.due("misses", two.misses(steady, 1, 5), -2);
            Check.due("misses", three.misses(steady, 0, 5), -3);
            Check.due("roundest", two.roundest(steady, 100), -1);
            Check.due("roundest", two.roundest(steady, 99), -2);
            Check.due("roundest", three.roundest(steady, 99), -3);
            Check.due("changes", two.changes(steady, 3), -1);
            Check.due("changes", two.changes(steady, 2), -2);
            Check.due("changes", three.changes(steady, 2), -3);
            Check.due("travel", two.travel(steady), -2);
            Check.due("travel", three.travel(steady), -3);
            Check.due("slow", two.slow(steady), -2);
            Check.due("slow", three.slow(steady), -3);
            Check.due("clear", two.clear(steady), -2);
            Check.due("clear", three.clear(steady), -3);
        }
    }

    // "An object is used for at most 512 calls": the 512th is answered as the first ones
    static void object_512Calls() {
        SixJoints x = new SixJoints();
        for (int call = 1; call <= 510; call++) {
            Check.due("set", x.set(call % 6, call % 20), true);
        }
        Check.due("call 511", x.undo(), 19);
        Check.due("call 512", x.joint(510 % 6, 0), 504 % 20);
        SixJoints y = new SixJoints();
        for (int call = 1; call <= 511; call++) {
            Check.due("feed", y.feed(0, 0, 0, 0, 0), call <= 35 ? 20 * call : -1);
        }
        Check.due("call 512", y.text(700), -1);
        // the longest TEXT again and again
        SixJoints z = new SixJoints();
        for (int i = 0; i < 14; i++) {
            for (int k = 0; k < 35; k++) {
                z.feed(0x20202020, 0x20202020, 0x20202020, 0x20202020, 0x20202020);
            }
            Check.due("text", z.text(700), 0);
        }
        Check.due("call 505", z.solutions(), 264);
    }

    private static final String[] TEXTS = {"",
        "link 7;hand 3;height 12;blend 4;seed 9;limit 1 -20 31;limit 5 0 63;speed 0 9;rest 3 16 4 8 2 10;spot a 5 16 4 8 2 12;"
            + "spot b 9 10 4 -8 2 12;spot c 1 3 4 8 2 1;go a;go b;go a;go c;",
        "limit 5 0 63;rest 3 16 4 8 2 10;spot b 5 16 4 8 2 12;spot a 7 10 4 8 2 12;go b;go a;",
        "limit 5 0 63;limit 3 1 31;speed 1 1;rest 3 16 4 8 2 10;spot b 5 16 4 8 2 12;spot a 7 10 4 8 2 12;go b;go a;",
        "rest 5 7 3 -32 -19 0;spot m 5 7 3 -32 -19 0;spot a 1 1 1 1 1 1;go m;",
        "limit 0 0 49;rest 3 16 4 8 2 10;spot n 50 16 4 8 2 10;go n;",
        "spot a 90 0 0 0 0 0;spot b 1 0 0 0 0 0;spot c 80 0 0 0 0 0;spot d 9 0 0 0 0 0;spot e 70 0 0 0 0 0;spot f 20 0 0 0 0 9;"};

    /** Every question there is, with a few numbers each (more than 512 calls, but the class does not count them). */
    private static long[] answers(SixJoints x) {
        java.util.ArrayList<Long> all = new java.util.ArrayList<>();
        for (int i = -1; i < 9; i++) {
            all.add((long) x.count(i));
            all.add((long) x.fault(i));
            all.add(x.hand(i));
            all.add((long) x.now(i));
            all.add(x.aim(i));
            all.add((long) x.named(i << 25));
            all.add((long) x.meets(i));
            all.add((long) x.stop(i));
            for (int k = 0; k < 6; k++) {
                all.add((long) x.spot(i, k));
                all.add((long) x.solution(i, k));
                all.add((long) x.way(i, k));
                all.add((long) x.step(i, 1, k));
            }
        }
        all.add((long) x.solutions());
        all.add((long) x.why());
        all.add((long) x.clearest());
        all.add((long) x.tour());
        all.add((long) x.reach(5, 0));
        all.add((long) x.reach(5, 1));
        all.add((long) x.reach(5, 2));
        all.add((long) x.high(3000));
        for (int j = 0; j < 6; j++) {
            for (int what = 0; what < 4; what++) {
                all.add((long) x.joint(j, what));
                all.add((long) x.chance(-1, 20, what));
            }
            all.add((long) x.free(j, true));
            all.add((long) x.free(j, false));
        }
        for (boolean steady : new boolean[] {true, false}) {
            all.add((long) x.nearest(steady));
            all.add((long) x.route(steady));
            all.add((long) x.slow(steady));
            all.add((long) x.clear(steady));
            all.add(x.travel(steady));
            for (int i = -1; i < 11; i++) {
                all.add((long) x.by(steady, i));
                all.add((long) x.roundest(steady, i));
                all.add((long) x.changes(steady, i));
                for (int j = 0; j < 6; j++) {
                    all.add((long) x.at(steady, i, j));
                    all.add((long) x.blended(steady, i, j));
                    all.add((long) x.misses(steady, i, j));
                    all.add((long) x.fastest(steady, j, i > 0));
                }
            }
        }
        long[] row = new long[all.size()];
        for (int i = 0; i < row.length; i++) {
            row[i] = all.get(i);
        }
        return row;
    }

    private static void same(String what, long[] got, long[] want) {
        for (int i = 0; i < want.length; i++) {
            Check.due(what + ", question " + i, got[i], want[i]);
        }
    }

    // promise 3: of TEXTS ahead nothing is left, told well or with a FAULT, whatever has been asked by then
    static void text_nothingIsLeftOfOneAhead() {
        for (String first : TEXTS) {
            for (String second : TEXTS) {
                long[] due = answers(Check.told(second));
                SixJoints x = Check.told(first);
                answers(x);
                Check.tell(x, second);
                same("behind another TEXT", answers(x), due);
                SixJoints y = Check.told(first);
                Check.tell(y, first);
                answers(y);
                Check.tell(y, second);
                same("behind two others", answers(y), due);
                Check.tell(y, "link 5;limit 0 3 3;seed 5;spot q 1 1 1 1 1 1;go q;go r");
                Check.due("a FAULT", y.fault(0), 4);
                Check.tell(y, second);
                same("behind a FAULT", answers(y), due);
            }
        }
    }

    // promise 3: a FAULT leaves all answers but those of fault() as they are
    static void text_faultChangesNoAnswer() {
        for (String text : TEXTS) {
            SixJoints x = Check.told(text);
            Check.tell(x, "go r");
            long[] due = answers(x);
            Check.tell(x, "rest 1 1 1 1 1 1;link 5;limit 0 3 3;seed 5;spot q 1 1 1 1 1 1;go q;link");
            Check.due("fault", x.fault(0), 3);
            Check.tell(x, "go r");
            same("behind a FAULT", answers(x), due);
        }
    }

    // no question changes an answer: asked twice, and behind what is undone
    static void questions_changeNothing() {
        for (String text : TEXTS) {
            SixJoints x = Check.told(text);
            long[] once = answers(x);
            same("asked twice", answers(x), once);
            x.set(0, 11);
            x.aimBy(2, 12345);
            answers(x);
            x.aimAt(-1);
            answers(x);
            x.undo();
            x.undo();
            x.undo();
            same("undone", answers(x), once);
            x.keep();
            x.set(1, 9);
            x.aimAt(-1);
            answers(x);
            x.back();
            same("back", answers(x), once);
        }
    }

    // ---- promises 37, 38

    // "By a PITCH 0 .. 63", what 0 .. 2; "NONE: no such ones"
    static void p37_reachNone() {
        SixJoints x = new SixJoints();
        for (int pitch : new int[] {-2147483648, -1, 0, 63, 64, 2147483647}) {
            for (int what : new int[] {-2147483648, -1, 0, 1, 2, 3, 2147483647}) {
                boolean such = (pitch == 0 || pitch == 63) && what >= 0 && what <= 2;
                Check.due("reach(" + pitch + ", " + what + ")", x.reach(pitch, what) == -1, !such);
            }
        }
    }

    // "within limits": one posture, the PITCH of which is held, one beside it not; "-2147483648: there are none (of 0, 1)"
    static void p37_reachOne() {
        int[][] arms = {{4, 8, 2}, {31, 31, 31}, {-32, -32, -32}, {31, 31, 2}, {-1, 0, 0}, {0, 0, 0}};
        for (int[] a : arms) {
            SixJoints x = Check.told("limit 2 " + a[0] + " " + a[0] + ";limit 3 " + a[1] + " " + a[1] + ";limit 4 " + a[2] + " " + a[2]
                + ";rest 0 0 " + a[0] + " " + a[1] + " " + a[2] + " 0;");
            int pitch = a[0] + a[1] + a[2] & 63;
            Check.due("its PITCH", x.hand(4), pitch);
            for (int p = 0; p < 64; p++) {
                Check.due("greatest by " + p, x.reach(p, 0), p == pitch ? (int) x.hand(6) : NONE_THERE);
                Check.due("least by " + p, x.reach(p, 1), p == pitch ? (int) x.hand(6) : NONE_THERE);
                Check.due("how many by " + p, x.reach(p, 2), p == pitch ? 1 : 0);
            }
        }
    }

    // limits of SHOULDER, ELBOW, WRIST: at the number that is needed, one off it
    static void p37_reachAtLimits() {
        // straight out by PITCH 0: SHOULDER 0, ELBOW 0, WRIST 0 alone are 22000
        String[] joints = {"limit 2 ", "limit 3 ", "limit 4 "};
        for (String joint : joints) {
            Check.due("up to 0", Check.told(joint + "-32 0;").reach(0, 0), 22000);
            Check.due("from 0", Check.told(joint + "0 31;").reach(0, 0), 22000);
            Check.due("up to -1", Check.told(joint + "-32 -1;").reach(0, 0) < 22000, true);
            Check.due("from 1", Check.told(joint + "1 31;").reach(0, 0) < 22000, true);
        }
        // one SHOULDER beside: A 1, ELBOW -1, WRIST 0
        Check.due("SHOULDER from 1", Check.told("limit 2 1 31;").reach(0, 0), 9 * 1995 + 4000);
        Check.due("SHOULDER to -1", Check.told("limit 2 -32 -1;").reach(0, 0), 9 * 1995 + 4000);
        Check.due("ELBOW from 1", Check.told("limit 3 1 31;").reach(0, 0), 9 * 1995 + 4000);
        Check.due("WRIST from 1", Check.told("limit 4 1 31;").reach(0, 0), 9 * 1995 + 4000);
        // folded straight back: least by PITCH 32
        Check.due("least", new SixJoints().reach(32, 1), -22000);
        Check.due("least, SHOULDER above -32", Check.told("limit 2 -31 31;").reach(32, 1), 9 * -1995 - 4000);
    }

    // "2 how many unlike pairs of OUT and z": the same by two SHOULDERS are one
    static void p37_reachPairs() {
        // A 0 by B -1, 0, 1 and A 1 by B 0, 1, 2: A 0, B 1 and A 1, B 0 are one pair
        Check.due("one twice", Check.told("limit 2 0 1;limit 3 -1 1;").reach(9, 2), 5);
        Check.due("SHOULDER 0", Check.told("limit 2 0 0;limit 3 -1 1;").reach(9, 2), 3);
        Check.due("SHOULDER 1", Check.told("limit 2 1 1;limit 3 -1 1;").reach(9, 2), 3);
        // folded up: 64 SHOULDERS, one pair
        Check.due("folded", Check.told("limit 3 -32 -32;").reach(9, 2), 1);
        // one ELBOW: 64 SHOULDERS, 64 pairs, whatever the WRIST; by WRISTS to 0 the 33 that fit
        Check.due("ELBOW 5", Check.told("limit 3 5 5;").reach(9, 2), 64);
        Check.due("ELBOW 5, WRIST to 0", Check.told("limit 3 5 5;limit 4 -32 0;").reach(9, 2), 33);
        Check.due("ELBOW 5, WRIST to -1", Check.told("limit 3 5 5;limit 4 -32 -1;").reach(9, 2), 32);
        // all of them: 2080 pairs of 64 angles, whichever goes first, of which the 32 that are folded up are one
        for (int pitch : new int[] {0, 16, 63}) {
            Check.due("all", new SixJoints().reach(pitch, 2), 2080 - 32 + 1);
        }
        // each ELBOW and the same the other way come to the same pairs
        Check.due("ELBOW -5 .. 5", Check.told("limit 3 -5 5;").reach(9, 2), 64 * 6);
    }

    // "at which OUT is no less than a number": at it, one beyond; "-2147483648: there is none"
    static void p38_high() {
        SixJoints x = new SixJoints();
        Check.due("farthest", x.high(22000), 10000);
        Check.due("one beyond", x.high(22001), NONE_THERE);
        Check.due("highest", x.high(0), 32000);
        Check.due("below", x.high(-1), 32000);
        Check.due("lowest number", x.high(-2147483648), 32000);
        Check.due("greatest number", x.high(2147483647), NONE_THERE);
        // one above 0: the hand alone leans by one
        Check.due("one above 0", x.high(1), 10000 + 18000 + 4 * 995);
        Check.due("as far as that", x.high(4 * 98), 10000 + 18000 + 4 * 995);
        Check.due("by limits one posture", Check.told("limit 2 4 4;limit 3 8 8;limit 4 2 2;").high(9 * (924 + 383) + 4 * 195),
            10000 + 9 * (383 + 924) + 4 * 981);
        Check.due("one beyond it", Check.told("limit 2 4 4;limit 3 8 8;limit 4 2 2;").high(9 * (924 + 383) + 4 * 195 + 1), NONE_THERE);
        // OUT below 0 alone
        SixJoints y = Check.told("limit 2 -32 -32;limit 3 0 0;limit 4 0 0;");
        Check.due("OUT -22000", y.high(-22000), 10000);
        Check.due("one more", y.high(-21999), NONE_THERE);
        Check.due("one less", y.high(-22001), 10000);
    }

    // straight up, straight down, a WRIST that serves one way alone
    static void p38_highByHand() {
        SixJoints down = Check.told("height 50;limit 2 -16 -16;limit 3 0 0;limit 4 0 0;");
        Check.due("straight down", down.high(0), 50000 - 22000);
        Check.due("straight down", down.high(-1), 50000 - 22000);
        Check.due("one beyond", down.high(1), NONE_THERE);
        SixJoints up = Check.told("height 50;limit 2 16 16;limit 3 0 0;limit 4 0 0;");
        Check.due("straight up", up.high(0), 50000 + 22000);
        Check.due("one beyond", up.high(1), NONE_THERE);
        // links level, B 0: the hand leans from straight up by WRIST 17 and more, or by 15 and less
        SixJoints back = Check.told("limit 2 0 0;limit 3 0 0;limit 4 17 31;");
        Check.due("back by one", back.high(18000 - 4 * 98), 10000 + 4 * 995);
        Check.due("one beyond", back.high(18000 - 4 * 98 + 1), NONE_THERE);
        SixJoints on = Check.told("limit 2 0 0;limit 3 0 0;limit 4 -32 15;");
        Check.due("on by one", on.high(18000 + 4 * 98), 10000 + 4 * 995);
        Check.due("by two", on.high(18000 + 4 * 98 + 1), 10000 + 4 * 981);
        Check.due("farthest", on.high(22000), 10000);
        Check.due("one beyond", on.high(22001), NONE_THERE);
        // of two that are almost as high the higher one
        Check.due("by 10", Check.told("link 1;hand 99;height 1;limit 2 15 16;limit 3 0 0;limit 4 0 1;").high(-5000), 102000);
        Check.due("by 10", Check.told("link 1;hand 99;height 1;limit 2 16 17;limit 3 0 0;limit 4 -1 0;").high(-5000), 102000);
        // B 5 and B -5, the same lean of the hand
        for (int b : new int[] {5, -5}) {
            int cosine = 882;
            int rise = b > 0 ? 471 : -471;
            SixJoints x = Check.told("limit 2 " + b + " " + b + ";limit 3 0 0;limit 4 " + (17 - b) + " " + (17 - b) + ";");
            Check.due("back by one, B " + b, x.high(18 * cosine - 4 * 98), 10000 + 18 * rise + 4 * 995);
            Check.due("one beyond", x.high(18 * cosine - 4 * 98 + 1), NONE_THERE);
            SixJoints y = Check.told("limit 2 " + b + " " + b + ";limit 3 0 0;limit 4 " + (15 - b) + " " + (15 - b) + ";");
            Check.due("on by one, B " + b, y.high(18 * cosine + 4 * 98), 10000 + 18 * rise + 4 * 995);
            Check.due("one beyond", y.high(18 * cosine + 4 * 98 + 1), NONE_THERE);
        }
    }

    // ---- promises 40 to 43

    // "how many are left; NONE: none"
    static void p40_undo() {
        SixJoints x = new SixJoints();
        Check.due("none", x.undo(), -1);
        x.set(0, 1);
        Check.due("one", x.undo(), 0);
        Check.due("none", x.undo(), -1);
        Check.due("again none", x.undo(), -1);
        Check.posture(x, 0, 0, 0, 0, 0, 0);
    }

    // "An IMAGE is kept (in place of one ahead)"
    static void p41_keep() {
        SixJoints x = new SixJoints();
        x.set(0, 1);
        Check.due("keep", x.keep(), true);
        x.set(0, 2);
        x.aimBy(0, 7);
        Check.due("keep", x.keep(), true);
        Check.due("keep is not undone", x.count(6), 3);
        x.set(0, 3);
        Check.due("back", x.back(), true);
        Check.due("the latest", x.joint(0, 0), 2);
        Check.due("its AIM", x.aim(0), 7);
    }

    // "(nothing to undo then; it stays): true; false: there is none"
    static void p42_back() {
        SixJoints x = new SixJoints();
        x.set(0, 1);
        Check.due("none", x.back(), false);
        Check.due("NOW stays", x.joint(0, 0), 1);
        Check.due("what can be undone stays", x.count(6), 1);
        x.keep();
        for (int i = 0; i < 3; i++) {
            x.set(0, 50);
            x.aimBy(1, 9);
            Check.due("back", x.back(), true);
            Check.due("NOW", x.joint(0, 0), 1);
            Check.due("AIM", x.aim(1), 0);
            Check.due("nothing to undo", x.count(6), 0);
            Check.due("none", x.undo(), -1);
        }
        // an undo() reaches behind keep(), the IMAGE stays
        x.set(0, 9);
        x.keep();
        Check.due("undo", x.undo(), 0);
        Check.due("NOW", x.joint(0, 0), 1);
        Check.due("back", x.back(), true);
        Check.due("NOW", x.joint(0, 0), 9);
    }

    // "NONE for another what"; each at its least and its most
    static void p43_count() {
        SixJoints x = Check.told("link 99;hand 98;height 97;blend 9;");
        int[] most = {99, 98, 97, 9, 0, 0, 0, 0};
        for (int what = 0; what < 8; what++) {
            Check.due("count(" + what + ")", x.count(what), most[what]);
        }
        for (int what : new int[] {-2147483648, -1, 8, 2147483647}) {
            Check.due("count(" + what + ")", x.count(what), -1);
        }
        for (int i = 0; i < 30; i++) {
            x.set(0, i);
        }
        Check.due("20 at most", x.count(6), 20);
        for (int i = 0; i < 40; i++) {
            x.feed(0, 0, 0, 0, 0);
        }
        Check.due("700 at most", x.count(7), 700);
    }
}
