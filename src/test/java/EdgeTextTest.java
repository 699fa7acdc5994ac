import java.util.ArrayList;
import java.util.List;
import java.util.NoSuchElementException;

/**
 * The sentences of the document's part 1 (a TEXT and its FAULTS) and of promises 1 to 7 that name a boundary:
 * each has a method of its own, with what the document asks at the boundary and one beyond it.
 */
public final class EdgeTextTest {
    private static final String[] WORDS = {"link", "hand", "height", "limit", "speed", "blend", "seed", "rest", "spot", "go"};
    private static final int[] LOW = {0, -32, -32, -32, -32, -64};
    private static final int[] HIGH = {99, 31, 31, 31, 31, 63};
    private static final String Z = "spot z 0 0 0 0 0 0;";
    private static final String[] LINES = {"link 5", "hand 5", "height 5", "limit 1 -5 5", "speed 1 5", "blend 5", "seed 5",
        "rest 1 2 3 4 5 6", "spot a 1 2 3 4 5 6", "go z"};

    public static void main(String[] args) {
        Check.all(EdgeTextTest.class);
    }

    private static SixJoints good(String text, int lines) {
        SixJoints x = new SixJoints();
        Check.due("text \"" + text + "\"", Check.tell(x, text), lines);
        Check.due("fault of \"" + text + "\"", x.fault(0), 0);
        Check.due("place of \"" + text + "\"", x.fault(1), -1);
        return x;
    }

    private static void bad(String text, int fault, int place) {
        SixJoints x = new SixJoints();
        Check.due("text \"" + text + "\"", Check.tell(x, text), -1);
        Check.due("fault of \"" + text + "\"", x.fault(0), fault);
        Check.due("place of \"" + text + "\"", x.fault(1), place);
    }

    /** A POSTURE of zeros but for one JOINT, as a text has it. */
    private static String zerosBut(int joint, int v) {
        StringBuilder s = new StringBuilder();
        for (int j = 0; j < 6; j++) {
            s.append(' ').append(j == joint ? v : 0);
        }
        return s.toString();
    }

    private static String spots(int n) {
        StringBuilder s = new StringBuilder();
        for (int i = 0; i < n; i++) {
            s.append("spot ").append((char) ('a' + i)).append(' ').append(i).append(" 0 0 0 0 0;");
        }
        return s.toString();
    }

    private static String goes(int n) {
        return Z + "go z;".repeat(n);
    }

    // ---- A TEXT

    // "{ LINE ';' }": none, one, two; a ';' too few, one too many
    static void text_linesEach() {
        good("", 0);
        good("link 1;", 1);
        good("link 1;hand 1;", 2);
        bad(";", 1, 0);
        bad("link 1", 1, 6);
        bad("link 1;;", 1, 7);
        bad("link 1;hand 1", 1, 13);
        bad("link 1 hand 1;", 1, 7);
    }

    // each LINE: one TOKEN too few, all, one too many
    static void text_tokensOfALine() {
        for (String line : LINES) {
            String[] tokens = line.split(" ");
            String text = Z + tokens[0];
            for (int i = 1; i < tokens.length; i++) {
                bad(text, 1, text.length());
                bad(text + ";", 1, text.length());
                text += " " + tokens[i];
            }
            bad(text, 1, text.length());
            good(text + ";", 2);
            bad(text + " 0;", 1, text.length() + 1);
            bad(text + " -1;", 1, text.length() + 1);
            bad(text + " a;", 1, text.length() + 1);
        }
    }

    // "Words: small letters in a row"
    static void text_smallLetters() {
        good("spot a 0 0 0 0 0 0;spot z 0 0 0 0 0 0;spot az 0 0 0 0 0 0;", 3);
        for (char c : new char[] {'a' - 1, 'z' + 1, 'A', 'Z', '_', (char) ('a' + 128), (char) ('z' + 128)}) {
            bad("spot " + c + " 0 0 0 0 0 0;", 1, 5);
            bad("spot a" + c + " 0 0 0 0 0 0;", 1, 6);
            bad(c + "link 5;", 1, 0);
        }
        bad("spot a b 0 0 0 0 0 0;", 1, 7);
        bad("li nk 5;", 1, 0);
        bad("LINK 5;", 1, 0);
    }

    // "W: one of 1 .. 6 letters"
    static void text_lettersOfW() {
        bad("spot 0 0 0 0 0 0;", 1, 5);
        good("spot b 0 0 0 0 0 0;go b;", 2);
        good("spot bcdefg 0 0 0 0 0 0;go bcdefg;", 2);
        bad("spot bcdefgh 0 0 0 0 0 0;", 1, 5);
        bad(Z + "go ;", 1, Z.length() + 3);
        bad(Z + "go zzzzzzz;", 1, Z.length() + 3);
    }

    // "none of those of the language"
    static void text_wordsOfTheLanguage() {
        for (String word : WORDS) {
            bad("spot " + word + " 0 0 0 0 0 0;", 1, 5);
            bad(Z + "go " + word + ";", 1, Z.length() + 3);
            String less = word.substring(0, word.length() - 1);
            good("spot " + less + " 0 0 0 0 0 0;go " + less + ";", 2);
            if (word.length() < 6) {
                good("spot " + word + "s 0 0 0 0 0 0;go " + word + "s;", 2);
            } else {
                bad("spot " + word + "s 0 0 0 0 0 0;", 1, 5);
            }
        }
        bad("text 5;", 1, 0);
        bad("a 5;", 1, 0);
    }

    // "N: digits"
    static void text_digits() {
        for (char c = '1'; c <= '9'; c++) {
            Check.due("link " + c, good("link " + c + ";", 1).count(0), c - '0');
        }
        good("blend 0;", 1);
        for (char c : new char[] {'0' - 1, '9' + 1, '.', ',', '+', (char) ('0' + 128)}) {
            bad("link " + c + ";", 1, 5);
            bad("link 5" + c + ";", 1, 6);
        }
        bad("link 5 5;", 1, 7);
        Check.due("zeros ahead", good("link 000000000000000000000000000099;", 1).count(0), 99);
    }

    // "M: digits, '-' right ahead of them or none"
    static void text_minus() {
        Check.due("-5", good("limit 1 -5 5;", 1).joint(1, 1), -5);
        Check.due("-0", good("limit 1 -0 -0;", 1).joint(1, 2), 0);
        Check.due("no blanks", good("limit 1-5-5;", 1).joint(1, 2), -5);
        Check.due("zeros", good("limit 1 -005 5;", 1).joint(1, 1), -5);
        bad("limit 1 - 5 5;", 1, 8);
        bad("limit 1 -\n5 5;", 1, 8);
        bad("limit 1 --5 5;", 1, 8);
        bad("limit 1 +5 5;", 1, 8);
        bad("limit 1 5- 5;", 1, 9);
        good("limit 1 -5-5;", 1);
    }

    // "Blanks 10, 32"
    static void text_blanks() {
        for (int c = 0; c < 256; c++) {
            String b = String.valueOf((char) c);
            if (c == 10 || c == 32) {
                good(b + "link" + b + b + "5" + b + ";" + b, 1);
            } else {
                if (c < '0' || c > '9') {
                    bad("link" + b + "5;", 1, c >= 'a' && c <= 'z' ? 0 : 4);
                }
                bad("link 5;" + b, 1, 7);
            }
        }
        good(" ".repeat(700), 0);
        good("\n".repeat(693) + "link 5;", 1);
    }

    // "link, hand, height: 1 .. 99 (9, 4, 10)"
    static void text_linkHandHeight() {
        int[] untold = {9, 4, 10};
        for (int i = 0; i < 3; i++) {
            String word = WORDS[i] + " ";
            bad(word + "0;", 2, word.length());
            Check.due(word + "1", good(word + "1;", 1).count(i), 1);
            Check.due(word + "99", good(word + "99;", 1).count(i), 99);
            bad(word + "100;", 2, word.length());
            Check.due(word + "untold", good("", 0).count(i), untold[i]);
        }
    }

    // "limit: of a JOINT 0 .. 5", "speed: of a JOINT"
    static void text_jointsOfLimitAndSpeed() {
        for (int j = 0; j < 6; j++) {
            Check.due("limit " + j, good("limit " + j + " 7 8;", 1).joint(j, 1), 7);
            Check.due("speed " + j, good("speed " + j + " 7;", 1).joint(j, 3), 7);
        }
        bad("limit 6 7 8;", 2, 6);
        bad("speed 6 7;", 2, 6);
        bad("limit -1 7 8;", 1, 6);
        bad("speed -1 7;", 1, 6);
        bad("limit -0 7 8;", 1, 6);
        bad("speed -0 7;", 1, 6);
    }

    // "both within BOUNDS: of JOINT 0 0 .. 99, of 1 .. 4 -32 .. 31, of 5 -64 .. 63"
    static void text_limitsWithinBounds() {
        for (int j = 0; j < 6; j++) {
            String word = "limit " + j + " ";
            SixJoints x = good(word + LOW[j] + " " + HIGH[j] + ";", 1);
            Check.due("least", x.joint(j, 1), LOW[j]);
            Check.due("greatest", x.joint(j, 2), HIGH[j]);
            bad(word + (LOW[j] - 1) + " " + HIGH[j] + ";", 2, 8);
            String least = word + LOW[j] + " ";
            bad(least + (HIGH[j] + 1) + ";", 2, least.length());
            bad(least + (LOW[j] - 1) + ";", 2, least.length());
            bad(word + (HIGH[j] + 1) + " " + (HIGH[j] + 1) + ";", 2, 8);
            x = good(least + LOW[j] + ";", 1);
            Check.due("one number, the lowest", x.joint(j, 2), LOW[j]);
            x = good(word + HIGH[j] + " " + HIGH[j] + ";", 1);
            Check.due("one number, the highest", x.joint(j, 1), HIGH[j]);
        }
    }

    // "the greatest number (no less than that)"
    static void text_greatestNoLessThanLeast() {
        for (int j = 0; j < 6; j++) {
            String word = "limit " + j + " 9 ";
            bad(word + "8;", 2, 10);
            Check.due("the same", good(word + "9;", 1).joint(j, 2), 9);
            Check.due("one more", good(word + "10;", 1).joint(j, 2), 10);
        }
        bad("limit 1 -9 -10;", 2, 11);
        good("limit 1 -9 -9;", 1);
    }

    // "(these, too, where none is told)"
    static void text_limitsUntold() {
        for (SixJoints x : new SixJoints[] {new SixJoints(), good("", 0), good("limit 2 3 3;", 1)}) {
            for (int j = 0; j < 6; j++) {
                boolean told = j == 2 && x.joint(2, 1) == 3;
                Check.due("least of " + j, x.joint(j, 1), told ? 3 : LOW[j]);
                Check.due("greatest of " + j, x.joint(j, 2), told ? 3 : HIGH[j]);
            }
        }
    }

    // "speed: of a JOINT 1 .. 32 (4 each)"
    static void text_speeds() {
        for (int j = 0; j < 6; j++) {
            String word = "speed " + j + " ";
            bad(word + "0;", 2, 8);
            Check.due("least", good(word + "1;", 1).joint(j, 3), 1);
            Check.due("most", good(word + "32;", 1).joint(j, 3), 32);
            bad(word + "33;", 2, 8);
            Check.due("untold", good("", 0).joint(j, 3), 4);
        }
    }

    // "blend: 0 .. 9 (2)"
    static void text_blend() {
        bad("blend -1;", 1, 6);
        Check.due("least", good("blend 0;", 1).count(3), 0);
        Check.due("most", good("blend 9;", 1).count(3), 9);
        bad("blend 10;", 2, 6);
        Check.due("untold", good("", 0).count(3), 2);
    }

    // "seed: 0 .. 99999 (0)"
    static void text_seed() {
        bad("seed -1;", 1, 5);
        bad("seed 100000;", 2, 5);
        int[] seeds = {0, 1, 99998, 99999};
        for (int seed : seeds) {
            SixJoints x = good("seed " + seed + ";", 1);
            Check.due("seed " + seed, x.chance(-1, 20, 1), x.chance(seed, 20, 1));
        }
        SixJoints x = good("", 0);
        Check.due("untold", x.chance(-1, 20, 1), x.chance(0, 20, 1));
        Check.due("seeds differ", x.chance(0, 20, 1) == x.chance(99999, 20, 1), false);
    }

    // "rest: a POSTURE, within BOUNDS (all 0)"
    static void text_rest() {
        for (int j = 0; j < 6; j++) {
            int place = 5 + 2 * j;
            bad("rest" + zerosBut(j, LOW[j] - 1) + ";", 2, place);
            Check.due("lowest", good("rest" + zerosBut(j, LOW[j]) + ";", 1).joint(j, 0), LOW[j]);
            Check.due("highest", good("rest" + zerosBut(j, HIGH[j]) + ";", 1).joint(j, 0), HIGH[j]);
            bad("rest" + zerosBut(j, HIGH[j] + 1) + ";", 2, place);
            Check.due("untold", good("", 0).joint(j, 0), 0);
        }
    }

    // "spot: W is a POSTURE, within BOUNDS"
    static void text_spotWithinBounds() {
        for (int j = 0; j < 6; j++) {
            int place = 7 + 2 * j;
            bad("spot a" + zerosBut(j, LOW[j] - 1) + ";", 2, place);
            Check.due("lowest", good("spot a" + zerosBut(j, LOW[j]) + ";", 1).spot(0, j), LOW[j]);
            Check.due("highest", good("spot a" + zerosBut(j, HIGH[j]) + ";", 1).spot(0, j), HIGH[j]);
            bad("spot a" + zerosBut(j, HIGH[j] + 1) + ";", 2, place);
        }
    }

    // BOUNDS are asked of rest and of spots, not limits, told ahead or behind
    static void text_beyondLimits() {
        SixJoints x = good("limit 0 5 6;rest 4 0 0 0 0 0;spot a 7 0 0 0 0 0;go a;limit 1 1 1;", 5);
        Check.due("rest", x.joint(0, 0), 4);
        Check.due("beyond", x.now(3), 2);
        Check.due("spot", x.spot(0, 0), 7);
    }

    // "spot, at most 8", "numbered from 0 on as they come"
    static void text_eightSpots() {
        for (int n = 0; n <= 8; n++) {
            SixJoints x = good(spots(n), n);
            Check.due("spots", x.count(4), n);
            for (int i = 0; i < n; i++) {
                Check.due("named", x.named(Check.letters(String.valueOf((char) ('a' + i)))), i);
                Check.due("RAIL", x.spot(i, 0), i);
            }
        }
        String eight = spots(8);
        bad(eight + "spot i 0 0 0 0 0 0;", 2, eight.length());
    }

    // "go, at most 10: the spots of THE WAY, in order"
    static void text_tenGoes() {
        for (int n = 0; n <= 10; n++) {
            Check.due("spots of THE WAY", good(goes(n), n + 1).count(5), n);
        }
        bad(goes(11), 2, goes(10).length());
        SixJoints x = good("limit 1 16 16;limit 2 4 4;limit 3 8 8;limit 5 0 63;speed 0 1;spot a 9 16 4 8 0 0;"
            + "spot b 3 16 4 8 0 0;rest 0 16 4 8 0 0;go b;go a;go b;", 11);
        int[] corners = {3, 9, 15};
        int[] rails = {3, 9, 3};
        for (int i = 0; i < 3; i++) {
            Check.due("RAIL at the CORNER", x.at(false, corners[i], 0), rails[i]);
        }
    }

    // ---- FAULTS

    // "a word of more than 6 letters that isn't of the language"
    static void fault1_sevenLetters() {
        bad("heights 5;", 1, 0);
        bad("linkhan 5;", 1, 0);
        bad("link abcdefg;", 1, 5);
        bad("link 5 abcdefg;", 1, 7);
        bad("link 5;abcdefg", 1, 7);
        bad("spot abcdefg 0 0 0 0 0 0;", 1, 5);
        bad("spot linklink 0 0 0 0 0 0;", 1, 5);
        // no word of the language is that long: the longest has six
        Check.due("height", good("height 5;", 1).count(2), 5);
        bad("a".repeat(700), 1, 0);
    }

    // "'-' without a digit behind it"
    static void fault1_minusAlone() {
        bad("limit 1 -", 1, 8);
        bad("limit 1 - ", 1, 8);
        bad("limit 1 -;", 1, 8);
        bad("limit 1 -a;", 1, 8);
        bad("-", 1, 0);
        bad("link 5 -", 1, 7);
        // the digit is behind the TEXT's end
        SixJoints x = new SixJoints();
        Check.feed(x, Check.bytes("limit 1 -5 5;"));
        Check.due("text(9)", x.text(9), -1);
        Check.due("fault", x.fault(0), 1);
        Check.due("place", x.fault(1), 8);
    }

    // "can't stand there": each kind of TOKEN where another one must be
    static void fault1_cantStandThere() {
        String[] starts = {";", "5", "-5", "a", "z", "links", "!"};
        for (String s : starts) {
            bad(s + " 5;", 1, 0);
            bad(Z + s, 1, Z.length());
        }
        for (String s : new String[] {";", "-5", "a", "link", "!"}) {
            bad("link " + s + ";", 1, 5);
        }
        for (String s : new String[] {";", "a", "link", "!"}) {
            bad("limit 1 " + s + " 5;", 1, 8);
            bad("limit 1 5 " + s + ";", 1, 10);
            bad("rest " + s + " 0 0 0 0 0;", 1, 5);
        }
        for (String s : new String[] {";", "5", "-5", "link", "!"}) {
            bad("spot " + s + " 0 0 0 0 0 0;", 1, 5);
            bad(Z + "go " + s + ";", 1, Z.length() + 3);
        }
        for (String s : new String[] {"5", "-5", "a", "link", "!"}) {
            bad("link 5 " + s + ";", 1, 7);
        }
    }

    // "the length, if more must come": of the TEXT, not of the TAPE, blanks ahead of it too
    static void fault1_theLength() {
        String text = "link 5;hand 6;";
        int[] lines = {0, -1, -1, -1, -1, -1, -1, 1, -1, -1, -1, -1, -1, -1, 2};
        int[] places = {-1, 0, 0, 0, 4, 5, 6, -1, 7, 7, 7, 11, 12, 13, -1};
        for (int n = 0; n <= text.length(); n++) {
            SixJoints x = new SixJoints();
            Check.feed(x, Check.bytes(text));
            Check.due("text(" + n + ")", x.text(n), lines[n]);
            Check.due("fault", x.fault(0), lines[n] < 0 ? 1 : 0);
            Check.due("place", x.fault(1), places[n]);
        }
        bad("link 5   ", 1, 9);
        bad("link\n\n", 1, 6);
        bad("link 5" + " ".repeat(694), 1, 700);
        good("link 5;   ", 1);
    }

    // "a '-' where N must be"
    static void fault1_minusWhereN() {
        for (String word : new String[] {"link", "hand", "height", "blend", "seed", "limit", "speed"}) {
            bad(word + " -1;", 1, word.length() + 1);
            bad(word + " -", 1, word.length() + 1);
        }
        bad("speed 1 -1;", 1, 8);
    }

    // "a number beyond what is said": however many digits, by whatever wrap-around
    static void fault2_hugeNumbers() {
        String[] huge = {"2147483647", "2147483648", "4294967295", "4294967296", "4294967301", "9223372036854775807",
            "9223372036854775808", "18446744073709551616", "18446744073709551621", "1" + "0".repeat(100), "9".repeat(600)};
        for (String h : huge) {
            bad("link " + h + ";", 2, 5);
            bad("limit 0 " + h + " 5;", 2, 8);
            bad("limit 0 5 " + h + ";", 2, 10);
            bad("limit 1 -" + h + " 5;", 2, 8);
            bad("limit " + h + " 5 5;", 2, 6);
            bad("speed 1 " + h + ";", 2, 8);
            bad("seed " + h + ";", 2, 5);
            bad("rest 0 0 -" + h + " 0 0 0;", 2, 9);
            bad("spot a 0 0 0 0 0 " + h + ";", 2, 17);
        }
        good("link " + "0".repeat(600) + "5;", 1);
    }

    // "a ninth spot, an eleventh go (at the word of the LINE)": whatever comes behind the word
    static void fault2_ninthSpotEleventhGo() {
        String eight = spots(8);
        for (String more : new String[] {"", ";", " a", " i", " link", " !", " i 0 0 0 0 0 0;"}) {
            bad(eight + "\n spot" + more, 2, eight.length() + 2);
        }
        String ten = goes(10);
        for (String more : new String[] {"", ";", " z", " a", " link", " !", " z;"}) {
            bad(ten + "\n go" + more, 2, ten.length() + 2);
        }
        // other LINES may come behind
        good(eight + "link 5;", 9);
        good(ten + "link 5;", 12);
    }

    // "told already": link, hand, height, blend, seed, rest, at the word
    static void fault3_words() {
        String[] once = {"link 1;", "hand 1;", "height 1;", "blend 1;", "seed 1;", "rest 0 0 0 0 0 0;"};
        for (String a : once) {
            String word = a.substring(0, a.indexOf(' '));
            for (String more : new String[] {"", ";", " 0", " 1;", " !"}) {
                bad(a + " " + word + more, 3, a.length() + 1);
            }
            for (String b : once) {
                if (!a.equals(b)) {
                    good(a + b, 2);
                    bad(a + b + a, 3, a.length() + b.length());
                }
            }
        }
        // of the number that is untold all the same
        bad("link 9;link 9;", 3, 7);
    }

    // "the limit, the speed of a JOINT (at its number)"
    static void fault3_limitsAndSpeeds() {
        for (int j = 0; j < 6; j++) {
            String limit = "limit " + j + " 0 0;";
            String speed = "speed " + j + " 4;";
            bad(limit + limit, 3, 12 + 6);
            bad(limit + "limit " + j, 3, 12 + 6);
            bad(limit + "limit " + j + " 999;", 3, 12 + 6);
            bad(speed + speed, 3, 10 + 6);
            bad(speed + "speed " + j + " 0;", 3, 10 + 6);
            good(limit + speed, 2);
            for (int k = 0; k < 6; k++) {
                if (k != j) {
                    good(limit + "limit " + k + " 0 0;" + speed + "speed " + k + " 4;", 4);
                }
            }
        }
        bad("limit 1 0 0;limit 01 0 0;", 3, 18);
    }

    // "a spot (at W)"
    static void fault3_spots() {
        bad(Z + "spot z", 3, Z.length() + 5);
        bad(Z + "spot z 0 0 0 0 0 0;", 3, Z.length() + 5);
        bad(Z + "spot a 0 0 0 0 0 0;spot  z !", 3, 2 * Z.length() + 6);
        good(Z + "spot zz 0 0 0 0 0 0;spot y 0 0 0 0 0 0;", 3);
        String seven = spots(7);
        for (int i = 0; i < 7; i++) {
            bad(seven + "spot " + (char) ('a' + i), 3, seven.length() + 5);
        }
        good("spot abcdef 0 0 0 0 0 0;spot abcdeg 0 0 0 0 0 0;spot abcde 0 0 0 0 0 0;", 3);
    }

    // "a spot that isn't told ahead (at W)"
    static void fault4_spots() {
        bad("go z;", 4, 3);
        bad("go z", 4, 3);
        bad("go z;" + Z, 4, 3);
        bad(Z + "go zz;", 4, Z.length() + 3);
        bad(Z + "go  y!", 4, Z.length() + 4);
        bad(Z + "go z;go y;spot y 0 0 0 0 0 0;", 4, Z.length() + 8);
        good(Z + "go z;", 2);
    }

    // "the first along the text"
    static void faults_firstAlongTheText() {
        bad("link 0 link 1 !", 2, 5);
        bad("link 1;link 0;!", 3, 7);
        bad("go a;link 0;!", 4, 3);
        bad("! link 0;", 1, 0);
        bad("limit 1 33 -99 !", 2, 8);
        bad("limit 6 - -", 2, 6);
        bad("spot a 0 0 0 0 0 64 !", 2, 17);
        bad("hand 5;limit 1 5 4;hand 5;", 2, 17);
    }

    // "(of one place the least)": 1 ahead of 3 and 4
    static void faults_ofOnePlaceTheLeast() {
        bad(Z + "go abcdefg;", 1, Z.length() + 3);
        bad(Z + "go link;", 1, Z.length() + 3);
        bad("link 5;spot link", 1, 12);
        bad("limit 1 0 0;limit -1 0 0;", 1, 18);
    }

    // ---- promises 1 to 7

    // "A TEXT without LINES; an empty TAPE"
    static void p01_newObject() {
        SixJoints x = new SixJoints();
        SixJoints y = Check.told("link 5;" + Z);
        y.text(0);
        for (int what = -1; what < 9; what++) {
            Check.due("count(" + what + ")", x.count(what), y.count(what));
        }
        Check.due("spots", x.count(4), 0);
        Check.due("spots of THE WAY", x.count(5), 0);
        Check.due("TAPE", x.count(7), 0);
        Check.due("text(1)", x.text(1), -2);
        Check.due("text(0)", x.text(0), 0);
    }

    // "NONE, and none come, if it would have more than 700"
    static void p02_sevenHundred() {
        SixJoints x = new SixJoints();
        for (int i = 1; i <= 35; i++) {
            Check.due("feed", x.feed(0x20202020, 0x20202020, 0x20202020, 0x20202020, 0x20202020), 20 * i);
            Check.due("TAPE", x.count(7), 20 * i);
        }
        for (int i = 0; i < 3; i++) {
            Check.due("feed", x.feed(0x21212121, 0x21212121, 0x21212121, 0x21212121, 0x21212121), -1);
            Check.due("TAPE", x.count(7), 700);
        }
        // none of the refused came in place of others
        Check.due("text", x.text(700), 0);
        Check.due("feed again", x.feed(0, 0, 0, 0, 0), 20);
    }

    // "Twenty bytes, four of each number, the highest first"
    static void p02_bytesInOrder() {
        String text = "speed 3 1;link 2;sp5";
        int[] n = new int[5];
        for (int i = 0; i < 20; i++) {
            n[i / 4] = n[i / 4] << 8 | text.charAt(i);
        }
        SixJoints x = new SixJoints();
        Check.due("feed", x.feed(n[0], n[1], n[2], n[3], n[4]), 20);
        Check.due("text(17)", x.text(17), 2);
        Check.due("speed", x.joint(3, 3), 1);
        Check.due("link", x.count(0), 2);
        // bytes from 128 on are bytes too, wherever they stand
        for (int i = 0; i < 20; i++) {
            int[] m = {0x20202020, 0x20202020, 0x20202020, 0x20202020, 0x20202020};
            m[i / 4] |= 0x80 << (24 - 8 * (i % 4));
            x.feed(m[0], m[1], m[2], m[3], m[4]);
            Check.due("text", x.text(20), -1);
            Check.due("place", x.fault(1), i);
        }
    }

    // "The TAPE's first n bytes (it is empty then)": n 0, all, fewer
    static void p03_firstBytes() {
        for (int n = 0; n <= 20; n++) {
            SixJoints x = new SixJoints();
            x.feed(0x6c696e6b, 0x20373b20, 0x20202020, 0x20202020, 0x20202021);
            int due = n == 0 ? 0 : n < 7 || n == 20 ? -1 : 1;
            Check.due("text(" + n + ")", x.text(n), due);
            Check.due("TAPE", x.count(7), 0);
            Check.due("link", x.count(0), due == 1 ? 7 : 9);
        }
    }

    // "NONE with a FAULT, all else stays"
    static void p03_faultAllElseStays() {
        SixJoints x = Check.told("link 5;hand 6;height 7;blend 1;seed 3;limit 0 1 50;speed 0 9;rest 3 1 2 3 4 5;" + Z + "go z;");
        x.set(0, 8);
        x.keep();
        x.set(0, 9);
        x.aimBy(0, 77);
        String[] faults = {"link 1;!", "hand 1;hand", "limit 0 2 60;link 0", "spot y 1 1 1 1 1 1;go x", "rest 1 1 1 1 1 1", "go z;"};
        int[] kinds = {1, 3, 2, 4, 1, 4};
        for (int i = 0; i < faults.length; i++) {
            Check.due("text", Check.tell(x, faults[i]), -1);
            Check.due("fault", x.fault(0), kinds[i]);
            Check.due("TAPE", x.count(7), 0);
            int[] counts = {5, 6, 7, 1, 1, 1, 3};
            for (int what = 0; what < 7; what++) {
                Check.due("count(" + what + ")", x.count(what), counts[what]);
            }
            Check.posture(x, 9, 1, 2, 3, 4, 5);
            Check.due("least", x.joint(0, 1), 1);
            Check.due("greatest", x.joint(0, 2), 50);
            Check.due("speed", x.joint(0, 3), 9);
            Check.due("aim", x.aim(0), 77);
            Check.due("named", x.named(Check.letters("z")), 0);
            Check.due("not named", x.named(Check.letters("y")), -1);
            Check.due("seed", x.chance(-1, 20, 1), x.chance(3, 20, 1));
        }
        Check.due("image stays", x.back(), true);
        Check.posture(x, 8, 1, 2, 3, 4, 5);
    }

    // "-2, and the TAPE stays: there are not so many, n is below 0"
    static void p03_notSoMany() {
        SixJoints x = new SixJoints();
        for (int n : new int[] {-2147483648, -2, -1, 1, 2, 20, 700, 701, 2147483647}) {
            Check.due("text(" + n + ") of none", x.text(n), -2);
        }
        x.feed(0x6c696e6b, 0x20373b20, 0x20202020, 0x20202020, 0x20202020);
        x.set(0, 3);
        for (int n : new int[] {-2147483648, -1, 21, 22, 40, 2147483647}) {
            Check.due("text(" + n + ")", x.text(n), -2);
            Check.due("TAPE", x.count(7), 20);
            Check.due("NOW stays", x.joint(0, 0), 3);
            Check.due("what can be undone stays", x.count(6), 1);
        }
        Check.due("text(20)", x.text(20), 1);
        Check.due("link", x.count(0), 7);
    }

    // "NOW, AIM as at first, no IMAGE, nothing to undo": by a text of no LINES as well
    static void p03_asAtFirst() {
        for (String text : new String[] {"", "rest 5 0 0 0 0 9;"}) {
            SixJoints x = Check.told("link 5;" + Z + "go z;");
            x.set(0, 8);
            x.aimBy(1, 9);
            x.keep();
            Check.tell(x, text);
            int rail = text.isEmpty() ? 0 : 5;
            int roll = text.isEmpty() ? 0 : 9;
            Check.posture(x, rail, 0, 0, 0, 0, roll);
            Check.place(x, 22000000L + 1000000L * rail, 0, 10000, 0, 0, roll);
            Check.due("undo", x.undo(), -1);
            Check.due("back", x.back(), false);
            Check.due("link", x.count(0), 9);
            Check.due("spots", x.count(4), 0);
            Check.due("THE WAY", x.count(5), 0);
        }
    }

    // "Of the latest text() that was not -2 .. (0) .. (NONE without)"; "NONE for another what"
    static void p04_fault() {
        SixJoints x = new SixJoints();
        Check.due("none yet", x.fault(0), 0);
        Check.due("none yet", x.fault(1), -1);
        Check.due("-2", x.text(5), -2);
        Check.due("none yet", x.fault(0), 0);
        Check.tell(x, "link 0;");
        for (int i = 0; i < 2; i++) {
            Check.due("fault", x.fault(0), 2);
            Check.due("place", x.fault(1), 5);
            Check.due("-2", x.text(-1), -2);
        }
        Check.due("what 2", x.fault(2), -1);
        Check.due("what -1", x.fault(-1), -1);
        Check.tell(x, "!");
        Check.due("the latest", x.fault(0), 1);
        Check.due("place 0", x.fault(1), 0);
        x.text(0);
        Check.due("without", x.fault(0), 0);
        Check.due("without", x.fault(1), -1);
    }

    // "5 bits each (a is 1; the first one highest of six, 0 behind the last one)"; "NONE: there is none such"
    static void p05_named() {
        SixJoints x = Check.told("spot a 0 0 0 0 0 0;spot z 0 0 0 0 0 0;spot zzzzzz 0 0 0 0 0 0;spot ab 0 0 0 0 0 0;");
        Check.due("a", x.named(1 << 25), 0);
        Check.due("z", x.named(26 << 25), 1);
        Check.due("zzzzzz", x.named(26 << 25 | 26 << 20 | 26 << 15 | 26 << 10 | 26 << 5 | 26), 2);
        Check.due("ab", x.named(1 << 25 | 2 << 20), 3);
        List<Integer> none = new ArrayList<>(List.of(0, 1, -1, 1 << 20, 27 << 25, 1 << 25 | 1, 1 << 25 | 1 << 20, 2 << 25,
            (1 << 25) - 1, (1 << 25) + 1, 1 << 25 | 1 << 30, 1 << 25 | 1 << 31, 2147483647, -2147483648, 2 << 20 | 1));
        for (int letters : none) {
            Check.due("named(" + letters + ")", x.named(letters), -1);
        }
        Check.due("without spots", new SixJoints().named(0), -1);
        // those of a TEXT ahead are forgotten
        Check.tell(x, "spot b 0 0 0 0 0 0;");
        Check.due("a", x.named(1 << 25), -1);
        Check.due("zzzzzz", x.named(26 << 25 | 26 << 20 | 26 << 15 | 26 << 10 | 26 << 5 | 26), -1);
        Check.due("b", x.named(2 << 25), 0);
    }

    private static String thrownBy(SixJoints x, int joint, int what) {
        try {
            x.joint(joint, what);
            return "";
        } catch (IndexOutOfBoundsException | NoSuchElementException e) {
            return e.getClass().getSimpleName();
        }
    }

    // "IndexOutOfBoundsException: no such JOINT. NoSuchElementException: no such what", the first one ahead
    static void p06_joint() {
        SixJoints x = new SixJoints();
        for (int joint : new int[] {-2147483648, -1, 0, 5, 6, 2147483647}) {
            for (int what : new int[] {-2147483648, -1, 0, 1, 2, 3, 4, 2147483647}) {
                String due = joint < 0 || joint > 5 ? "IndexOutOfBoundsException"
                    : what < 0 || what > 3 ? "NoSuchElementException" : "";
                Check.due("joint(" + joint + ", " + what + ") throws", thrownBy(x, joint, what).equals(due), true);
            }
        }
    }

    // "0 for no such ones"
    static void p07_spot() {
        SixJoints x = Check.told("spot a 1 2 3 4 5 6;spot b 7 8 9 10 11 12;");
        for (int spot : new int[] {-2147483648, -1, 0, 1, 2, 8, 2147483647}) {
            for (int joint : new int[] {-2147483648, -1, 0, 5, 6, 2147483647}) {
                boolean such = (spot == 0 || spot == 1) && joint >= 0 && joint < 6;
                Check.due("spot(" + spot + ", " + joint + ")", x.spot(spot, joint), such ? 6 * spot + joint + 1 : 0);
            }
        }
        // not those of the TEXT ahead
        Check.tell(x, "spot c 9 9 9 9 9 9;");
        Check.due("spot(0, 0)", x.spot(0, 0), 9);
        Check.due("spot(1, 0)", x.spot(1, 0), 0);
    }
}
