/** Sums of four variables that are even or odd, as clauses: a search meets its conflicts late. */
final class Sums {
    private static final int SUMS = 11;

    private Sums() {
    }

    /** Eleven sums, 88 clauses with 352 literals, for both desks of 16 variables. */
    static void closeBoth(String at, Check check, LessonSolver desk, PlainDesk plain, Numbers numbers) {
        for (int sum = 0; sum < SUMS; sum++) {
            int odd = numbers.below(2);
            int[] members = new int[4];
            for (int i = 0; i < 4; i++) {
                members[i] = 4 * i + 1 + numbers.below(4);
            }
            for (int signs = 0; signs < 16; signs++) {
                if (Integer.bitCount(signs) % 2 == odd) {
                    continue;
                }
                for (int i = 0; i < 4; i++) {
                    int literal = (signs >> i & 1) == 0 ? members[i] : -members[i];
                    check.due(at + "add", desk.add(literal), plain.add(literal));
                }
                check.due(at + "close", desk.close(), plain.close());
            }
        }
    }
}
