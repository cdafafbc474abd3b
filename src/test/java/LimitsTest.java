/**
 * Full desks, beyond what 512 calls can fill. The document leaves those answers free; what must
 * hold is that nothing is thrown and that every call ends.
 */
public final class LimitsTest {
    private static final Check CHECK = new Check();

    public static void main(String[] args) {
        fullDesks();
        CHECK.end();
    }

    private static void fullDesks() {
        for (int width = 1; width <= 8; width++) {
            Numbers numbers = new Numbers(width);
            LessonSolver desk = new LessonSolver(16);
            PlainDesk plain = new PlainDesk(16);
            for (int c = 0; c < 600; c++) {
                for (int k = 0; k < width; k++) {
                    int literal = numbers.literal(16);
                    desk.add(literal);
                    plain.add(literal);
                }
                CHECK.due("close", desk.close(), plain.close());
            }
            for (int i = 0; i < 40; i++) {
                int literal = numbers.literal(16);
                CHECK.due("assume", desk.assume(literal), plain.assume(literal));
            }
            CHECK.due("core of a full desk", desk.core(), plain.core());
            for (int left = 39; left >= 0; left--) {
                CHECK.due("retract", desk.retract(1), plain.retract(1));
                CHECK.due("least", desk.least(), plain.least());
                int literal = numbers.literal(16);
                CHECK.due("implied", desk.implied(literal), plain.implied(literal));
            }
            CHECK.due("lessons that do not follow", desk.count(4), 0);
        }
    }
}
