import java.lang.reflect.Constructor;
import java.lang.reflect.Field;
import java.lang.reflect.Method;
import java.lang.reflect.Modifier;
import java.util.Set;
import java.util.TreeSet;

/** The class shows the document's face and nothing beside it. */
public final class FaceTest {
    public static void main(String[] args) throws Exception {
        Set<String> want = new TreeSet<>(Set.of(
            "public static final int LessonSolver.NONE",
            "public LessonSolver(int)",
            "public boolean LessonSolver.add(int)",
            "public int LessonSolver.close()",
            "public int LessonSolver.assume(int)",
            "public int LessonSolver.retract(int)",
            "public boolean LessonSolver.solve()",
            "public int LessonSolver.least()",
            "public int LessonSolver.implied(int)",
            "public long LessonSolver.core()",
            "public int LessonSolver.count(int)",
            "public void LessonSolver.wipe()"));
        Set<String> got = new TreeSet<>();
        for (Field f : LessonSolver.class.getDeclaredFields()) {
            addIfVisible(got, f.getModifiers(), f.toString());
        }
        for (Constructor<?> c : LessonSolver.class.getDeclaredConstructors()) {
            addIfVisible(got, c.getModifiers(), c.toString());
        }
        for (Method m : LessonSolver.class.getDeclaredMethods()) {
            addIfVisible(got, m.getModifiers(), m.toString());
        }
        Check check = new Check();
        check.due("the face is " + got + ", which", got.equals(want), true);
        check.due("public and final", LessonSolver.class.getModifiers(),
            Modifier.PUBLIC | Modifier.FINAL);
        check.due("NONE", LessonSolver.NONE, -1);
        check.end();
    }

    private static void addIfVisible(Set<String> to, int modifiers, String text) {
        if (!Modifier.isPrivate(modifiers)) {
            to.add(text);
        }
    }
}
