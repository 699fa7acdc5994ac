/** Promises 1 to 7 and 43: the tape, the text and its faults, what it tells. */
public final class TextTest {
    private static final String A = "spot a 0 0 0 0 0 0;";

    public static void main(String[] args) {
        newObject();
        tape();
        goodTexts();
        faultsOfTokens();
        faultsOfNumbers();
        faultsOfTellingTwice();
        faultsOfSpots();
        whatStays();
        namesAndSpots();
        joints();
        counts();
        Check.end("TextTest");
    }

    private static void newObject() {
        SixJoints x = new SixJoints();
        int[] due = {9, 4, 10, 2, 0, 0, 0, 0};
        for (int what = 0; what < 8; what++) {
            Check.due("new count(" + what + ")", x.count(what), due[what]);
        }
        Check.due("new fault(0)", x.fault(0), 0);
        Check.due("new fault(1)", x.fault(1), -1);
        Check.posture(x, 0, 0, 0, 0, 0, 0);
        Check.place(x, 22000000, 0, 10000, 0, 0, 0);
        Check.due("new back", x.back(), false);
        Check.due("new undo", x.undo(), -1);
    }

    private static void tape() {
        SixJoints x = new SixJoints();
        for (int i = 1; i <= 35; i++) {
            Check.due("feed " + i, x.feed(0x20202020, 0x20202020, 0x20202020, 0x20202020, 0x20202020), 20 * i);
        }
        Check.due("feed 36", x.feed(0, 0, 0, 0, 0), -1);
        Check.due("tape", x.count(7), 700);
        Check.due("text(701)", x.text(701), -2);
        Check.due("text(-1)", x.text(-1), -2);
        Check.due("tape stays", x.count(7), 700);
        Check.due("text(700)", x.text(700), 0);
        Check.due("tape is empty", x.count(7), 0);
        Check.due("text(1) of none", x.text(1), -2);
        Check.due("text(0)", x.text(0), 0);
        // highest byte first
        Check.due("feed", x.feed(0x6c696e6b, 0x20373b41, 0x41414141, 0x41414141, 0x41414141), 20);
        Check.due("text(7)", x.text(7), 1);
        Check.due("link", x.count(0), 7);
        Check.due("rest of the tape is gone", x.count(7), 0);
    }

    private static void good(String text, int lines) {
        SixJoints x = new SixJoints();
        Check.due("text \"" + text + "\"", Check.tell(x, text), lines);
        Check.due("fault of \"" + text + "\"", x.fault(0), 0);
        Check.due("place of \"" + text + "\"", x.fault(1), -1);
        Check.due("other fault", x.fault(2), -1);
        Check.due("other fault", x.fault(-1), -1);
    }

    private static void goodTexts() {
        good("", 0);
        good(" \n ", 0);
        good("link 1;hand 99;height 1;", 3);
        good("link99;", 1);
        good("\nlink\n0000000000000000000000000001 ;", 1);
        good("limit 1-32-32;limit 5-64 63;", 2);
        good("limit 0 99 99;limit 0005 -0 0;", 2);
        good("speed 0 1;speed 5 32;", 2);
        good("blend 0;seed 99999;", 2);
        good("rest 99 31 31 31 31 63;spot a 0-32-32-32-32-64;go a;", 3);
        good("spot abcdef 0 0 0 0 0 0;go abcdef;go abcdef;", 3);
        good("spot links 0 0 0 0 0 0;spot g 0 0 0 0 0 0;", 2);
        StringBuilder s = new StringBuilder(A);
        for (int i = 0; i < 10; i++) {
            s.append("go a;");
        }
        good(s.toString(), 11);
        StringBuilder eight = new StringBuilder();
        for (char c = 'a'; c < 'i'; c++) {
            eight.append("spot ").append(c).append(" 1 2 3 4 5 6;");
        }
        good(eight.toString(), 8);
    }

    private static void bad(String text, int fault, int place) {
        SixJoints x = new SixJoints();
        Check.due("text \"" + text + "\"", Check.tell(x, text), -1);
        Check.due("fault of \"" + text + "\"", x.fault(0), fault);
        Check.due("place of \"" + text + "\"", x.fault(1), place);
        Check.due("tape", x.count(7), 0);
    }

    private static void faultsOfTokens() {
        bad(";", 1, 0);
        bad("a;", 1, 0);
        bad("5;", 1, 0);
        bad(" -5;", 1, 1);
        bad("Link 5;", 1, 0);
        bad("link\t5;", 1, 4);
        bad("link", 1, 4);
        bad("link  ", 1, 6);
        bad("link 5", 1, 6);
        bad("link 5 \n", 1, 8);
        bad("link ;", 1, 5);
        bad("link -5;", 1, 5);
        bad("link -;", 1, 5);
        bad("link a;", 1, 5);
        bad("link 5 5;", 1, 7);
        bad("link 5-;", 1, 6);
        bad("link 5;;", 1, 7);
        bad("linkhand 5;", 1, 0);
        bad("link 5;\u00e9", 1, 7);
        bad("limit -1 0 0;", 1, 6);
        bad("limit 1 - 5 0;", 1, 8);
        bad("limit 1 --5 0;", 1, 8);
        bad("limit 1 -5;", 1, 10);
        bad("speed 1 -1;", 1, 8);
        bad("seed -1;", 1, 5);
        bad("blend -0;", 1, 6);
        bad("spot 5 0 0 0 0 0 0;", 1, 5);
        bad("spot link 0 0 0 0 0 0;", 1, 5);
        bad("spot abcdefg 0 0 0 0 0 0;", 1, 5);
        bad("spot go", 1, 5);
        bad("go go;", 1, 3);
        bad("go abcdefg;", 1, 3);
        bad("go", 1, 2);
        bad("rest 0 0 0 0 0 0 0;", 1, 17);
    }

    private static void faultsOfNumbers() {
        bad("link 0;", 2, 5);
        bad("link 100;", 2, 5);
        bad("hand 0;", 2, 5);
        bad("height 100;", 2, 7);
        bad("link 99999999999999999999999;", 2, 5);
        bad("link 4294967297;", 2, 5);
        bad("blend 10;", 2, 6);
        bad("seed 100000;", 2, 5);
        bad("limit 6 0 0;", 2, 6);
        bad("limit 0 -1 0;", 2, 8);
        bad("limit 0 0 100;", 2, 10);
        bad("limit 1 -33 0;", 2, 8);
        bad("limit 4 0 32;", 2, 10);
        bad("limit 5 -65 0;", 2, 8);
        bad("limit 5 0 64;", 2, 10);
        bad("limit 2 5 4;", 2, 10);
        bad("limit 2 5 -6;", 2, 10);
        bad("limit 2 5 -99999999999999999999;", 2, 10);
        bad("speed 6 1;", 2, 6);
        bad("speed 0 0;", 2, 8);
        bad("speed 0 33;", 2, 8);
        bad("rest 100 0 0 0 0 0;", 2, 5);
        bad("rest 0 32 0 0 0 0;", 2, 7);
        bad("rest 0 0 0 0 0 64;", 2, 15);
        bad("spot a -1 0 0 0 0 0;", 2, 7);
        bad("spot a 0 0 0 0 -33 0;", 2, 15);
        // the fault that is first along the text, whatever comes behind it
        bad("link 0 0;", 2, 5);
        bad("link 100$", 2, 5);
    }

    private static void faultsOfTellingTwice() {
        String[] words = {"link", "hand", "height", "blend", "seed"};
        for (String word : words) {
            String once = word + " 1;";
            bad(once + word, 3, once.length());
            bad(once + word + " 1;", 3, once.length());
        }
        bad("rest 0 0 0 0 0 0;rest 0;", 3, 17);
        bad("limit 1 0 0;limit 1 99;", 3, 18);
        bad("speed 1 1;limit 1 0 0;speed 1", 3, 28);
        good("limit 1 0 0;limit 2 0 0;speed 1 1;speed 2 1;", 4);
        bad(A + "spot a 1 1 1 1 1 1;", 3, A.length() + 5);
        // a line that was refused has told nothing
        SixJoints x = new SixJoints();
        Check.due("refused", Check.tell(x, "link 5;hand 0;"), -1);
        Check.due("link", x.count(0), 9);
        Check.due("told anew", Check.tell(x, "link 5;hand 1;"), 2);
        Check.due("link", x.count(0), 5);
    }

    private static void faultsOfSpots() {
        bad("go a;", 4, 3);
        bad("go a;" + A, 4, 3);
        bad(A + "go b", 4, A.length() + 3);
        StringBuilder s = new StringBuilder();
        for (char c = 'a'; c < 'i'; c++) {
            s.append("spot ").append(c).append(" 0 0 0 0 0 0;");
        }
        bad(s + "spot a", 2, s.length());
        bad(s + "spot i 0 0 0 0 0 0;", 2, s.length());
        StringBuilder g = new StringBuilder(A);
        for (int i = 0; i < 10; i++) {
            g.append("go a;");
        }
        bad(g + "go b;", 2, g.length());
        bad(g + " go", 2, g.length() + 1);
    }

    private static void whatStays() {
        SixJoints x = Check.told("link 5;rest 1 2 3 4 5 6;" + A);
        x.set(0, 9);
        x.keep();
        x.set(0, 10);
        Check.due("refused", Check.tell(x, "link 5;link"), -1);
        Check.due("link", x.count(0), 5);
        Check.due("spots", x.count(4), 1);
        Check.due("to undo", x.count(6), 2);
        Check.posture(x, 10, 2, 3, 4, 5, 6);
        Check.due("image stays", x.back(), true);
        Check.posture(x, 9, 2, 3, 4, 5, 6);
        Check.due("-2 leaves the fault", x.text(5), -2);
        Check.due("fault(0)", x.fault(0), 3);
        Check.due("fault(1)", x.fault(1), 7);
        x.set(0, 11);
        Check.due("new text", Check.tell(x, "rest 7 0 0 0 0 0;"), 1);
        Check.posture(x, 7, 0, 0, 0, 0, 0);
        Check.place(x, 29000000, 0, 10000, 0, 0, 0);
        Check.due("link as none is told", x.count(0), 9);
        Check.due("spots", x.count(4), 0);
        Check.due("nothing to undo", x.count(6), 0);
        Check.due("no image", x.back(), false);
        Check.due("fault(0)", x.fault(0), 0);
        Check.due("fault(1)", x.fault(1), -1);
    }

    private static void namesAndSpots() {
        SixJoints x = Check.told("spot b 1 -2 3 -4 5 -6;spot abcdef 99 31 -32 0 1 63;spot zz 0 0 0 0 0 0;");
        Check.due("b", x.named(2 << 25), 0);
        Check.due("abcdef", x.named(Check.letters("abcdef")), 1);
        Check.due("zz", x.named(26 << 25 | 26 << 20), 2);
        Check.due("z", x.named(26 << 25), -1);
        Check.due("b, lowest", x.named(2), -1);
        Check.due("none", x.named(0), -1);
        Check.due("above six", x.named(2 << 25 | 1 << 30), -1);
        Check.due("below 0", x.named(2 << 25 | 1 << 31), -1);
        int[] b = {1, -2, 3, -4, 5, -6};
        for (int j = 0; j < 6; j++) {
            Check.due("spot(0, " + j + ")", x.spot(0, j), b[j]);
        }
        Check.due("spot(1, 5)", x.spot(1, 5), 63);
        Check.due("spot(3, 0)", x.spot(3, 0), 0);
        Check.due("spot(-1, 0)", x.spot(-1, 0), 0);
        Check.due("spot(0, 6)", x.spot(0, 6), 0);
        Check.due("spot(0, -1)", x.spot(0, -1), 0);
    }

    private static int thrown(SixJoints x, int joint, int what) {
        try {
            x.joint(joint, what);
            return 0;
        } catch (IndexOutOfBoundsException e) {
            return 1;
        } catch (java.util.NoSuchElementException e) {
            return 2;
        }
    }

    private static void joints() {
        SixJoints x = Check.told("limit 2 -5 7;speed 2 32;rest 1 2 3 4 5 6;");
        Check.posture(x, 1, 2, 3, 4, 5, 6);
        Check.due("least", x.joint(2, 1), -5);
        Check.due("greatest", x.joint(2, 2), 7);
        Check.due("speed", x.joint(2, 3), 32);
        int[] least = {0, -32, -5, -32, -32, -64};
        int[] most = {99, 31, 7, 31, 31, 63};
        for (int j = 0; j < 6; j++) {
            Check.due("least of " + j, x.joint(j, 1), least[j]);
            Check.due("greatest of " + j, x.joint(j, 2), most[j]);
            Check.due("speed of " + j, x.joint(j, 3), j == 2 ? 32 : 4);
        }
        Check.due("joint(-1, 0)", thrown(x, -1, 0), 1);
        Check.due("joint(6, 0)", thrown(x, 6, 0), 1);
        Check.due("joint(6, 9)", thrown(x, 6, 9), 1);
        Check.due("joint(0, 4)", thrown(x, 0, 4), 2);
        Check.due("joint(0, -1)", thrown(x, 0, -1), 2);
        Check.due("joint(0, 3)", thrown(x, 0, 3), 0);
    }

    private static void counts() {
        SixJoints x = Check.told("link 1;hand 2;height 3;blend 4;seed 5;" + A + "spot b 0 0 0 0 0 0;go b;go a;go b;");
        x.set(0, 1);
        x.feed(0, 0, 0, 0, 0);
        int[] due = {1, 2, 3, 4, 2, 3, 1, 20};
        for (int what = 0; what < 8; what++) {
            Check.due("count(" + what + ")", x.count(what), due[what]);
        }
        Check.due("count(8)", x.count(8), -1);
        Check.due("count(-1)", x.count(-1), -1);
    }
}
