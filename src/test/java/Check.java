import java.lang.reflect.InvocationTargetException;
import java.lang.reflect.Method;
import java.nio.charset.StandardCharsets;
import java.util.Arrays;
import java.util.Comparator;

/** What every test uses: counts the answers that are not as due, and feeds texts. */
final class Check {
    private static int asked = 0;
    private static int wrong = 0;
    private static String sentence = "";

    private Check() {
    }

    /** Runs every method of a test that takes and answers nothing, so that none is forgotten, and tells its name. */
    static void all(Class<?> test) {
        Method[] methods = test.getDeclaredMethods();
        Arrays.sort(methods, Comparator.comparing(Method::getName));
        int run = 0;
        for (Method m : methods) {
            if (m.getParameterCount() == 0 && m.getReturnType() == void.class && !m.isSynthetic()) {
                m.setAccessible(true);
                sentence = m.getName() + ": ";
                try {
                    m.invoke(null);
                } catch (InvocationTargetException e) {
                    due("threw " + e.getCause(), 1, 0);
                } catch (IllegalAccessException e) {
                    throw new IllegalStateException(e);
                }
                run++;
            }
        }
        due("sentences", run > 0, true);
        end(test.getName());
    }

    static void due(String call, long got, long want) {
        asked++;
        if (got != want) {
            wrong++;
            if (wrong <= 40) {
                System.out.println(sentence + call + " answered " + got + ", due is " + want);
            }
        }
    }

    static void due(String call, boolean got, boolean want) {
        due(call, got ? 1 : 0, want ? 1 : 0);
    }

    /** Feeds bytes, filled up with blanks to twenties: how many bytes are on the tape then. */
    static int feed(SixJoints x, byte[] bytes) {
        int taped = x.count(7);
        for (int i = 0; i < bytes.length; i += 20) {
            int[] five = new int[5];
            for (int k = 0; k < 20; k++) {
                int b = i + k < bytes.length ? bytes[i + k] & 255 : 32;
                five[k / 4] = five[k / 4] << 8 | b;
            }
            taped = x.feed(five[0], five[1], five[2], five[3], five[4]);
        }
        return taped;
    }

    static byte[] bytes(String text) {
        return text.getBytes(StandardCharsets.ISO_8859_1);
    }

    static int tell(SixJoints x, String text) {
        feed(x, bytes(text));
        return x.text(text.length());
    }

    static SixJoints told(String text) {
        SixJoints x = new SixJoints();
        if (tell(x, text) < 0) {
            due("text of \"" + text + "\" at " + x.fault(1), x.fault(0), 0);
        }
        return x;
    }

    static int letters(String name) {
        int packed = 0;
        for (int i = 0; i < 6; i++) {
            packed = packed << 5 | (i < name.length() ? name.charAt(i) - 'a' + 1 : 0);
        }
        return packed;
    }

    static void posture(SixJoints x, int... numbers) {
        for (int joint = 0; joint < 6; joint++) {
            due("joint(" + joint + ", 0)", x.joint(joint, 0), numbers[joint]);
        }
    }

    static void place(SixJoints x, long... parts) {
        for (int what = 0; what < 6; what++) {
            due("aim(" + what + ")", x.aim(what), parts[what]);
        }
    }

    static void end(String test) {
        System.out.println(test + ": " + asked + " answers, " + wrong + " not as due");
        if (wrong != 0) {
            System.exit(1);
        }
    }
}
