/** Promises 21, 22, 32, 33 and 34: one move, the order of all spots, how far a joint is free. */
public final class MoveTest {
    public static void main(String[] args) {
        steps();
        meetings();
        tours();
        freedom();
        Check.end("MoveTest");
    }

    private static void row(SixJoints x, int spot, int joint, int... due) {
        for (int t = 0; t < due.length; t++) {
            Check.due("step(" + spot + ", " + t + ", " + joint + ")", x.step(spot, t, joint), due[t]);
        }
        Check.due("behind the end", x.step(spot, due.length, joint), -99);
        Check.due("ahead of it", x.step(spot, -1, joint), -99);
    }

    private static void steps() {
        SixJoints x = Check.told("speed 0 3;speed 1 32;rest 10 5 0 0 0 0;spot a 0 -5 1 0 -1 16;spot b 10 5 0 0 0 0;");
        // RAIL: 10 by 3, upwards: 4 TICKS, and ROLL 16 by 4: 4
        row(x, 0, 0, 10, 8, 5, 3, 0);
        row(x, 0, 1, 5, 3, 0, -2, -5);
        row(x, 0, 2, 0, 0, 0, 0, 1);
        row(x, 0, 3, 0, 0, 0, 0, 0);
        row(x, 0, 4, 0, 0, 0, 0, -1);
        row(x, 0, 5, 0, 4, 8, 12, 16);
        row(x, 1, 0, 10);
        Check.due("no spot", x.step(2, 0, 0), -99);
        Check.due("no spot", x.step(-1, 0, 0), -99);
        Check.due("no joint", x.step(0, 0, 6), -99);
        Check.due("no joint", x.step(0, 0, -1), -99);
        SixJoints slow = Check.told("speed 5 1;rest 0 0 0 0 0 -64;spot a 0 0 0 0 0 63;");
        Check.due("127 TICKS", slow.step(0, 127, 5), 63);
        Check.due("no more", slow.step(0, 128, 5), -99);
        Check.due("after one", slow.step(0, 1, 5), -63);
        SixJoints quick = Check.told("speed 5 32;rest 0 0 0 0 0 -64;spot a 0 0 0 0 0 63;");
        row(quick, 0, 5, -64, -33, -1, 31, 63);
    }

    private static void meetings() {
        SixJoints x = Check.told("rest 0 16 0 8 0 0;spot a 0 16 0 -8 0 0;spot b 0 -8 0 8 0 0;spot c 0 8 0 3 0 0;"
            + "spot d 0 0 0 8 0 0;spot e 0 16 0 -7 0 0;");
        Check.due("ELBOW through 0", x.meets(0), 2);
        Check.due("TURN through 0", x.meets(1), 4);
        Check.due("none", x.meets(2), -2);
        Check.due("at its end", x.meets(3), 4);
        // 8, 8 less 3, less 7, less 11, less 15: 0 is never a number at a tick
        Check.due("skipped between ticks", x.meets(4), -2);
        Check.due("no spot", x.meets(5), -1);
        Check.due("no spot", x.meets(-1), -1);
        x.set(1, 0);
        Check.due("at its beginning", x.meets(2), 0);
    }

    private static void tours() {
        SixJoints x = Check.told("speed 0 1;rest 50 0 0 0 0 0;spot a 90 0 0 0 0 0;spot b 45 0 0 0 0 0;spot c 40 0 0 0 0 0;");
        Check.due("tour", x.tour(), 60);
        int[] due = {1, 2, 0};
        for (int i = 0; i < 3; i++) {
            Check.due("stop(" + i + ")", x.stop(i), due[i]);
        }
        Check.due("stop(3)", x.stop(3), -1);
        Check.due("stop(-1)", x.stop(-1), -1);
        x.set(0, 99);
        Check.due("tour from elsewhere", x.tour(), 59);
        Check.due("stop(0)", x.stop(0), 0);
        Check.due("stop(1)", x.stop(1), 1);
        Check.due("stop(2)", x.stop(2), 2);
        // of several orders the first by numbers: 1, 0 are as near one way as the other
        SixJoints y = Check.told("rest 50 0 0 0 0 0;spot a 54 0 0 0 0 0;spot b 46 0 0 0 0 0;spot c 54 0 0 0 0 0;");
        Check.due("tour", y.tour(), 3);
        int[] tie = {0, 2, 1};
        for (int i = 0; i < 3; i++) {
            Check.due("stop(" + i + ") of a tie", y.stop(i), tie[i]);
        }
        StringBuilder s = new StringBuilder("speed 0 1;");
        for (int i = 0; i < 8; i++) {
            s.append("spot ").append((char) ('a' + i)).append(' ').append(10 * (8 - i)).append(" 0 0 0 0 0;");
        }
        SixJoints z = Check.told(s.toString());
        Check.due("eight spots", z.tour(), 80);
        for (int i = 0; i < 8; i++) {
            Check.due("stop(" + i + ") of eight", z.stop(i), 7 - i);
        }
        Check.due("stop(8)", z.stop(8), -1);
        // by POSTURES, not by SOLUTIONS, and whatever the limits are
        SixJoints v = Check.told("limit 0 0 1;speed 0 1;spot a 7 0 0 0 0 0;");
        Check.due("beyond limits", v.tour(), 7);
        z.text(0);
        Check.due("without spots", z.tour(), 0);
        Check.due("without spots", z.stop(0), -1);
    }

    private static void freedom() {
        SixJoints x = Check.told("limit 2 -3 4;limit 3 -5 20;rest 98 30 0 1 0 -64;");
        int[] up = {1, 1, 4, 19, 31, 127};
        int[] down = {98, 29, 3, 0, 32, 0};
        for (int j = 0; j < 6; j++) {
            Check.due("free(" + j + ", true)", x.free(j, true), up[j]);
            Check.due("free(" + j + ", false)", x.free(j, false), down[j]);
        }
        Check.due("free(6)", x.free(6, true), -1);
        Check.due("free(-1)", x.free(-1, false), -1);
        // NOW's own is not asked
        x.set(3, 0);
        Check.due("out of a singular spot", x.free(3, true), 20);
        Check.due("out of a singular spot", x.free(3, false), 5);
        Check.due("all else is singular", x.free(0, false), 0);
        Check.due("all else is singular", x.free(1, true), 0);
        // NOW may be beyond limits
        SixJoints y = Check.told("limit 0 10 20;rest 9 16 0 8 0 0;");
        Check.due("into them", y.free(0, true), 11);
        Check.due("farther off", y.free(0, false), 0);
        SixJoints z = Check.told("limit 0 10 20;rest 5 16 0 8 0 0;");
        Check.due("not by one", z.free(0, true), 0);
        SixJoints v = Check.told("limit 0 10 20;rest 22 16 0 8 0 0;");
        Check.due("not by one", v.free(0, false), 0);
    }
}
