/**
 * The limits of the desk, which lie beyond what 512 calls can fill. The document leaves those
 * answers free; what must hold is that nothing is thrown and that every call ends.
 */
public final class LimitsTest {
    private static final Check CHECK = new Check();

    public static void main(String[] args) {
        manyClauses();
        manyLiterals();
        fullDesks();
        CHECK.end();
    }

    private static void manyClauses() {
        LessonSolver desk = new LessonSolver(16);
        for (int i = 1; i <= 600; i++) {
            desk.add(1 + i % 16);
            CHECK.due("close, the " + i + "th", desk.close(), i);
        }
        desk.add(-1);
        CHECK.due("close without room", desk.close(), LessonSolver.NONE);
        CHECK.due("it is forgotten", desk.count(3), 0);
        CHECK.due("clauses", desk.count(0), 600);
        CHECK.due("literals", desk.count(1), 600);
        CHECK.due("least", desk.least(), 65535);
        desk.wipe();
        CHECK.due("close after wipe", desk.close(), 1);
    }

    private static void manyLiterals() {
        LessonSolver desk = new LessonSolver(16);
        for (int i = 1; i <= 200; i++) {
            int length = i < 200 ? 20 : 19;
            for (int k = 0; k < length; k++) {
                desk.add(1);
            }
            CHECK.due("close, the " + i + "th", desk.close(), i);
        }
        CHECK.due("literals", desk.count(1), 3999);
        desk.add(2);
        desk.add(2);
        CHECK.due("two more have no room", desk.close(), LessonSolver.NONE);
        CHECK.due("they are forgotten", desk.count(3), 0);
        CHECK.due("literals stay", desk.count(1), 3999);
        desk.add(3);
        CHECK.due("one more has room", desk.close(), 201);
        CHECK.due("a clause without literals has room", desk.close(), 202);
        CHECK.due("literals", desk.count(1), 4000);
    }

    private static void fullDesks() {
        for (int width = 1; width <= 8; width++) {
            Numbers numbers = new Numbers(width);
            LessonSolver desk = new LessonSolver(16);
            PlainDesk plain = new PlainDesk(16);
            for (int c = 0; c < 600; c++) {
                for (int k = 0; k < width; k++) {
                    int literal = numbers.literal(16);
                    desk.add(literal);
                    plain.add(literal);
                }
                CHECK.due("close", desk.close(), plain.close());
            }
            for (int i = 0; i < 40; i++) {
                int literal = numbers.literal(16);
                CHECK.due("assume", desk.assume(literal), plain.assume(literal));
            }
            CHECK.due("core of a full desk", desk.core(), plain.core());
            for (int left = 39; left >= 0; left--) {
                CHECK.due("retract", desk.retract(1), plain.retract(1));
                CHECK.due("least", desk.least(), plain.least());
                int literal = numbers.literal(16);
                CHECK.due("implied", desk.implied(literal), plain.implied(literal));
            }
            CHECK.due("lessons that do not follow", desk.count(4), 0);
        }
    }
}
