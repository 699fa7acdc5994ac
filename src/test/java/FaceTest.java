import java.lang.reflect.Constructor;
import java.lang.reflect.Field;
import java.lang.reflect.Method;
import java.lang.reflect.Modifier;
import java.util.Arrays;
import java.util.Set;
import java.util.TreeSet;

/** The public face is the document's and no more; classes inside are static and stay inside. */
public final class FaceTest {
    private static final String[] METHODS = {
        "int feed(int,int,int,int,int)", "int text(int)", "int fault(int)", "int named(int)", "int joint(int,int)",
        "int spot(int,int)", "boolean set(int,int)", "long hand(int)", "int now(int)", "long aim(int)",
        "boolean aimAt(int)", "boolean aimBy(int,long)", "int solutions()", "int solution(int,int)",
        "int way(int,int)", "int why()", "int nearest(boolean)", "int clearest()", "boolean take(int)",
        "int step(int,int,int)", "int meets(int)", "int route(boolean)", "int by(boolean,int)",
        "int at(boolean,int,int)", "int blended(boolean,int,int)", "int fastest(boolean,int,boolean)",
        "int misses(boolean,int,int)", "int roundest(boolean,int)", "int changes(boolean,int)",
        "long travel(boolean)", "int tour()", "int stop(int)", "int free(int,boolean)", "int slow(boolean)",
        "int clear(boolean)", "int reach(int,int)", "int high(int)", "int chance(int,int,int)", "int undo()",
        "boolean keep()", "boolean back()", "int count(int)"};

    public static void main(String[] args) {
        Set<String> faces = new TreeSet<>();
        Set<String> names = new TreeSet<>();
        for (Method m : SixJoints.class.getDeclaredMethods()) {
            if (Modifier.isPublic(m.getModifiers())) {
                StringBuilder s = new StringBuilder(m.getReturnType() + " " + m.getName() + "(");
                for (int i = 0; i < m.getParameterTypes().length; i++) {
                    s.append(i == 0 ? "" : ",").append(m.getParameterTypes()[i]);
                }
                faces.add(s.append(")").toString());
                names.add(m.getName());
                Check.due(m + " is of the object", !Modifier.isStatic(m.getModifiers()), true);
            } else {
                Check.due(m + " is private", Modifier.isPrivate(m.getModifiers()), true);
            }
        }
        Set<String> due = new TreeSet<>(Arrays.asList(METHODS));
        Check.due("methods " + faces, faces.equals(due), true);
        for (Field f : SixJoints.class.getDeclaredFields()) {
            boolean face = f.getName().equals("NONE");
            Check.due(f.toString(), Modifier.isPublic(f.getModifiers()), face);
            Check.due(f + " is private", Modifier.isPrivate(f.getModifiers()), !face);
            Check.due(f + " static, final", !Modifier.isStatic(f.getModifiers()) || Modifier.isFinal(f.getModifiers()), true);
        }
        Constructor<?>[] made = SixJoints.class.getDeclaredConstructors();
        Check.due("constructors", made.length == 1 && made[0].getParameterCount() == 0, true);
        Check.due("final", Modifier.isFinal(SixJoints.class.getModifiers()), true);
        for (Class<?> inside : SixJoints.class.getDeclaredClasses()) {
            Check.due(inside + " is static", Modifier.isStatic(inside.getModifiers()), true);
            Check.due(inside + " is no face", Modifier.isPublic(inside.getModifiers()), false);
            for (Method m : inside.getDeclaredMethods()) {
                Check.due(m + " bears a public name", names.contains(m.getName()), false);
            }
        }
        Check.due("NONE", SixJoints.NONE, -1);
        Check.end("FaceTest");
    }
}
