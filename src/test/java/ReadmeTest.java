import java.lang.reflect.Method;
import java.lang.reflect.Modifier;
import java.nio.file.Files;
import java.nio.file.Path;
import java.util.regex.Matcher;
import java.util.regex.Pattern;

/** The calls in README.md answer what stands behind them, and each call of the face is told there. */
public final class ReadmeTest {
    private static final Pattern MADE =
        Pattern.compile("LessonSolver desk = new LessonSolver\\((-?\\d+)\\);");
    private static final Pattern CALL =
        Pattern.compile("desk\\.(\\w+)\\((-?\\d+)?\\);(?: +// (true|false|-?\\d+)(?:: .+)?)?");
    private static final Check CHECK = new Check();

    private static LessonSolver desk;

    public static void main(String[] args) throws Exception {
        String text = Files.readString(Path.of("README.md"));
        boolean inJava = false;
        int calls = 0;
        for (String line : text.split("\n")) {
            if (line.startsWith("```")) {
                inJava = line.equals("```java");
            } else if (inJava) {
                follow(line);
                calls++;
            }
        }
        CHECK.due("README.md has calls", calls > 20, true);
        everyCallIsTold(text);
        CHECK.end();
    }

    private static void follow(String line) throws Exception {
        Matcher made = MADE.matcher(line);
        if (made.matches()) {
            desk = new LessonSolver(Integer.parseInt(made.group(1)));
            return;
        }
        Matcher call = CALL.matcher(line);
        boolean isCall = call.matches() && desk != null;
        CHECK.due("README.md: a line that can be followed: " + line, isCall, true);
        if (isCall) {
            String got = answer(call.group(1), call.group(2));
            String want = String.valueOf(call.group(3));
            CHECK.due("README.md: " + line + " gave " + got + ", which", got.equals(want), true);
        }
    }

    /** The answer as a text; "null" of a call that answers nothing. */
    private static String answer(String name, String argument) throws Exception {
        if (argument == null) {
            return String.valueOf(LessonSolver.class.getMethod(name).invoke(desk));
        }
        Method method = LessonSolver.class.getMethod(name, int.class);
        return String.valueOf(method.invoke(desk, Integer.parseInt(argument)));
    }

    private static void everyCallIsTold(String text) {
        for (Method method : LessonSolver.class.getDeclaredMethods()) {
            if (Modifier.isPublic(method.getModifiers())) {
                String row = "\n| `" + method.getName() + "(";
                CHECK.due("README.md tells " + method.getName(), text.contains(row), true);
            }
        }
    }
}
