/** Promises 8 to 13 and 40 to 42: NOW, its place, AIM, what can be undone, images. */
public final class StateTest {
    public static void main(String[] args) {
        setting();
        hands();
        nows();
        aims();
        undoing();
        images();
        Check.end("StateTest");
    }

    private static void setting() {
        SixJoints x = Check.told("limit 0 10 20;rest 5 0 0 0 0 0;");
        Check.due("beyond", x.now(3), 1);
        Check.due("set(0, 9)", x.set(0, 9), false);
        Check.due("set(0, 21)", x.set(0, 21), false);
        Check.due("set(6, 0)", x.set(6, 0), false);
        Check.due("set(-1, 0)", x.set(-1, 0), false);
        Check.due("set(1, 32)", x.set(1, 32), false);
        Check.due("set(1, -33)", x.set(1, -33), false);
        Check.due("set(5, -64)", x.set(5, -64), true);
        Check.due("to undo", x.count(6), 1);
        Check.due("set(0, 10)", x.set(0, 10), true);
        Check.due("set(0, 20)", x.set(0, 20), true);
        Check.due("the same again", x.set(0, 20), true);
        Check.due("to undo", x.count(6), 4);
        Check.posture(x, 20, 0, 0, 0, 0, -64);
        Check.due("beyond", x.now(3), 0);
        Check.place(x, 27000000, 0, 10000, 0, 0, 0);
    }

    private static void hand(SixJoints x, long... due) {
        for (int what = 0; what < due.length; what++) {
            Check.due("hand(" + what + ")", x.hand(what), due[what]);
        }
    }

    private static void hands() {
        SixJoints x = Check.told("link 10;hand 3;height 7;rest 2 8 16 -16 16 -1;");
        // A 16, B 0, PITCH 16: OUT 10 times (0 and 1000), and 3 times 0
        hand(x, 2000000 + 10000 * 707, 10000 * 707, 7000 + 10000 + 3000, 8, 16, 63, 10000);
        x.set(1, -8);
        hand(x, 2000000 + 10000 * 707, -10000 * 707, 20000, 56, 16, 63, 10000);
        x.set(2, -32);
        // A -32, B -48, PITCH -32
        hand(x, 2000000 - 13000 * 707, 13000 * 707, 7000 + 10000, 56, 32, 63, -13000);
        Check.due("hand(7)", x.hand(7), 0);
        Check.due("hand(-1)", x.hand(-1), 0);
        SixJoints far = Check.told("link 99;hand 99;height 99;rest 99 0 0 0 0 0;");
        hand(far, 396000000L, 0, 99000, 0, 0, 0, 297000);
        int[] quarter = {1000, 995, 981, 957, 924, 882, 831, 773, 707, 634, 556, 471, 383, 290, 195, 98, 0};
        SixJoints y = Check.told("link 1;hand 1;height 1;");
        for (int k = 0; k <= 16; k++) {
            for (int turn : new int[] {k, -k, 32 - k, k - 32}) {
                boolean set = y.set(1, turn);
                Check.due("set " + turn, set, turn != 32);
                if (set) {
                    int cosine = Math.abs(turn) <= 16 ? quarter[Math.abs(turn)] : -quarter[32 - Math.abs(turn)];
                    int sine = quarter[16 - (Math.abs(turn) <= 16 ? Math.abs(turn) : 32 - Math.abs(turn))];
                    Check.due("x by turn " + turn, y.hand(0), 3000L * cosine);
                    Check.due("y by turn " + turn, y.hand(1), 3000L * (turn < 0 ? -sine : sine));
                }
            }
        }
    }

    private static void nows() {
        SixJoints x = new SixJoints();
        int[][] due = {{1, 1, 1, 1, 9}, {-1, 1, -1, 1, 9}, {1, -1, 1, -1, 9}, {-1, -31, -1, -1, 9}, {-32, 5, 0, 1, 0},
            {5, -32, 1, 0, 0}, {0, 16, 0, 1, 0}, {16, 16, 1, 1, 1000}, {16, -8, 1, -1, 707}, {8, 8, 1, 1, 499}};
        for (int[] d : due) {
            x.set(1, d[0]);
            x.set(3, d[1]);
            Check.due("SIDE", x.now(0), d[2]);
            Check.due("BEND", x.now(1), d[3]);
            Check.due("MEASURE", x.now(2), d[4]);
        }
        Check.due("now(4)", x.now(4), -9);
        Check.due("now(-1)", x.now(-1), -9);
        SixJoints y = Check.told("limit 0 1 2;limit 1 -5 -1;limit 2 1 1;limit 3 1 1;limit 4 1 1;limit 5 1 1;");
        Check.due("all beyond", y.now(3), 6);
        y.set(5, 1);
        Check.due("five beyond", y.now(3), 5);
    }

    private static void aims() {
        SixJoints x = Check.told("link 10;hand 3;height 7;rest 2 8 16 -16 16 -1;spot a 3 0 0 0 0 5;");
        Check.place(x, 9070000, 7070000, 20000, 8, 16, 63);
        Check.due("aim(6)", x.aim(6), 0);
        Check.due("aim(-1)", x.aim(-1), 0);
        Check.due("aimAt(0)", x.aimAt(0), true);
        Check.place(x, 26000000, 0, 7000, 0, 0, 5);
        Check.due("aimAt(1)", x.aimAt(1), false);
        Check.due("aimAt(-2)", x.aimAt(-2), false);
        x.set(1, 0);
        Check.place(x, 26000000, 0, 7000, 0, 0, 5);
        Check.due("aimAt(NONE)", x.aimAt(-1), true);
        Check.place(x, 12000000, 0, 20000, 0, 16, 63);
        Check.due("to undo", x.count(6), 3);
        long[] most = {1000000000L, 1000000000L, 1000000000L, 63, 63, 63};
        for (int what = 0; what < 6; what++) {
            long least = what < 3 ? -1000000000L : 0;
            Check.due("too much", x.aimBy(what, most[what] + 1), false);
            Check.due("too little", x.aimBy(what, least - 1), false);
            Check.due("far too much", x.aimBy(what, 1L << 32), false);
            Check.due("least", x.aimBy(what, least), true);
            Check.due("aim", x.aim(what), least);
            Check.due("most", x.aimBy(what, most[what]), true);
            Check.due("aim", x.aim(what), most[what]);
        }
        Check.due("aimBy(6, 0)", x.aimBy(6, 0), false);
        Check.due("aimBy(-1, 0)", x.aimBy(-1, 0), false);
        Check.due("to undo", x.count(6), 15);
        Check.posture(x, 2, 0, 16, -16, 16, -1);
    }

    private static void undoing() {
        SixJoints x = new SixJoints();
        Check.due("nothing", x.undo(), -1);
        x.set(0, 1);
        x.aimBy(0, 5);
        x.aimAt(-1);
        x.take(0);
        Check.due("to undo", x.count(6), 4);
        int[] taken = new int[6];
        for (int j = 0; j < 6; j++) {
            taken[j] = x.solution(0, j);
        }
        Check.posture(x, taken);
        Check.due("undo take", x.undo(), 3);
        Check.posture(x, 1, 0, 0, 0, 0, 0);
        Check.place(x, 23000000, 0, 10000, 0, 0, 0);
        Check.due("undo aimAt", x.undo(), 2);
        Check.place(x, 5, 0, 10000, 0, 0, 0);
        Check.due("undo aimBy", x.undo(), 1);
        Check.place(x, 22000000, 0, 10000, 0, 0, 0);
        Check.posture(x, 1, 0, 0, 0, 0, 0);
        Check.due("undo set", x.undo(), 0);
        Check.posture(x, 0, 0, 0, 0, 0, 0);
        Check.due("nothing left", x.undo(), -1);
        // what fails can't be undone
        x.set(0, 100);
        x.aimAt(0);
        x.aimBy(9, 0);
        x.take(-1);
        Check.due("nothing to undo", x.count(6), 0);
        for (int i = 1; i <= 25; i++) {
            x.set(0, i);
            Check.due("to undo", x.count(6), Math.min(i, 20));
        }
        for (int left = 19; left >= 0; left--) {
            Check.due("undo", x.undo(), left);
            Check.due("as it was", x.joint(0, 0), left + 5);
        }
        Check.due("no more than twenty", x.undo(), -1);
        Check.due("as the oldest", x.joint(0, 0), 5);
    }

    private static void images() {
        SixJoints x = new SixJoints();
        Check.due("none", x.back(), false);
        x.set(0, 3);
        x.aimBy(1, 77);
        Check.due("keep", x.keep(), true);
        Check.due("keeping is not undone", x.count(6), 2);
        x.set(0, 4);
        x.aimAt(-1);
        Check.due("back", x.back(), true);
        Check.posture(x, 3, 0, 0, 0, 0, 0);
        Check.place(x, 22000000, 77, 10000, 0, 0, 0);
        Check.due("nothing to undo", x.count(6), 0);
        Check.due("undo", x.undo(), -1);
        x.set(0, 5);
        Check.due("it stays", x.back(), true);
        Check.posture(x, 3, 0, 0, 0, 0, 0);
        x.set(0, 6);
        Check.due("another", x.keep(), true);
        x.set(0, 7);
        Check.due("undo leaves the image", x.undo(), 1);
        x.set(0, 8);
        Check.due("back to that", x.back(), true);
        Check.posture(x, 6, 0, 0, 0, 0, 0);
        x.text(0);
        Check.due("no image of another text", x.back(), false);
    }
}
