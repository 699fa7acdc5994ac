/** Promises 37 and 38: how far and how high it reaches. */
public final class ReachTest {
    private static final int NONE = -2147483648;

    public static void main(String[] args) {
        outs();
        pairs();
        heights();
        Check.end("ReachTest");
    }

    private static void outs() {
        SixJoints x = new SixJoints();
        Check.due("reach(0, 0)", x.reach(0, 0), 22000);
        Check.due("reach(0, 1)", x.reach(0, 1), -14000);
        Check.due("reach(32, 0)", x.reach(32, 0), 14000);
        Check.due("reach(32, 1)", x.reach(32, 1), -22000);
        Check.due("reach(16, 0)", x.reach(16, 0), 18000);
        Check.due("reach(48, 1)", x.reach(48, 1), -18000);
        Check.due("pitch -1", x.reach(-1, 0), -1);
        Check.due("pitch 64", x.reach(64, 0), -1);
        Check.due("what 3", x.reach(0, 3), -1);
        Check.due("what -1", x.reach(0, -1), -1);
        SixJoints y = Check.told("limit 2 3 3;limit 3 5 5;limit 4 -8 -7;");
        // A 3, B 8, PITCH 0 or 1
        int out = 9 * (957 + 707);
        Check.due("reach(0, 0)", y.reach(0, 0), out + 4000);
        Check.due("reach(0, 1)", y.reach(0, 1), out + 4000);
        Check.due("reach(1, 0)", y.reach(1, 0), out + 4 * 995);
        Check.due("reach(2, 0)", y.reach(2, 0), NONE);
        Check.due("reach(2, 1)", y.reach(2, 1), NONE);
        Check.due("reach(63, 0)", y.reach(63, 0), NONE);
        // PITCH modulo 64
        SixJoints z = Check.told("limit 2 31 31;limit 3 31 31;limit 4 31 31;");
        Check.due("93", z.reach(29, 2), 1);
        Check.due("only that", z.reach(30, 2), 0);
        Check.due("limits of the others don't count", Check.told("limit 0 5 5;limit 1 5 5;limit 5 5 5;").reach(0, 0), 22000);
    }

    private static void pairs() {
        SixJoints y = Check.told("limit 2 3 3;limit 3 5 6;limit 4 -9 -7;");
        Check.due("one", y.reach(2, 2), 1);
        Check.due("two", y.reach(0, 2), 2);
        Check.due("none", y.reach(40, 2), 0);
        // A 0, B 4 and A 4, B 0 are alike
        SixJoints z = Check.told("limit 2 0 4;limit 3 -4 4;");
        int[] a = new int[45];
        int[] b = new int[45];
        int n = 0;
        int unlike = 0;
        for (int s = 0; s <= 4; s++) {
            for (int e = -4; e <= 4; e++) {
                boolean had = false;
                for (int i = 0; i < n; i++) {
                    had |= a[i] == s + e && b[i] == s;
                }
                a[n] = s;
                b[n] = s + e;
                n++;
                unlike += had ? 0 : 1;
            }
        }
        Check.due("alike whichever link goes first", z.reach(9, 2), unlike);
        // all 64 folded ones are one; of the others each two of unlike angles are two
        SixJoints x = new SixJoints();
        Check.due("all", x.reach(5, 2), new Oracle().reach(5, 2));
    }

    private static void heights() {
        SixJoints x = new SixJoints();
        Check.due("straight up", x.high(0), 10000 + 22000);
        Check.due("whatever OUT", x.high(-2147483648), 32000);
        Check.due("straight out", x.high(22000), 10000);
        Check.due("too far", x.high(22001), NONE);
        Check.due("far too far", x.high(2147483647), NONE);
        // one step off straight out
        Check.due("almost straight out", x.high(22000 - 5 * 4), 10000 + 98 * 4);
        SixJoints y = Check.told("limit 2 0 0;limit 3 0 0;limit 4 -32 -17;height 1;");
        Check.due("hand down and back", y.high(18000 - 4000), 1000);
        Check.due("hand level", y.high(18000 - 4 * 995), 1000 - 4 * 98);
        Check.due("least OUT at it", y.high(18000 - 4 * 98), 1000 - 4 * 995);
        Check.due("beyond", y.high(18000 - 4 * 98 + 1), NONE);
        Check.due("whatever OUT", y.high(-2147483648), 1000);
        Check.due("whatever OUT", y.high(-2147483647), 1000);
        Check.due("none", y.high(2147483647), NONE);
        SixJoints z = Check.told("limit 2 -16 -16;limit 3 0 0;limit 4 0 0;height 1;");
        Check.due("straight down", z.high(0), 1000 - 22000);
        Check.due("straight down, whatever OUT", z.high(-2147483648), 1000 - 22000);
        Check.due("none", z.high(1), NONE);
    }
}
