/** What the tests of the edges share: desks to begin with, and numbers that are no literals. */
final class Desks {
    private Desks() {
    }

    /** A desk of so many variables with these clauses. */
    static LessonSolver with(int variables, int[]... clauses) {
        LessonSolver desk = new LessonSolver(variables);
        for (int[] literals : clauses) {
            clause(desk, literals);
        }
        return desk;
    }

    static int[] row(int... literals) {
        return literals;
    }

    static int clause(LessonSolver desk, int... literals) {
        for (int literal : literals) {
            desk.add(literal);
        }
        return desk.close();
    }

    static LessonSolver assume(LessonSolver desk, int... literals) {
        for (int literal : literals) {
            desk.assume(literal);
        }
        return desk;
    }

    static void addTimes(LessonSolver desk, int literal, int times) {
        for (int i = 0; i < times; i++) {
            desk.add(literal);
        }
    }

    static void assumeTimes(LessonSolver desk, int literal, int times) {
        for (int i = 0; i < times; i++) {
            desk.assume(literal);
        }
    }

    /** A desk with 600 clauses, each the literal 1. */
    static LessonSolver fullOfClauses() {
        LessonSolver desk = new LessonSolver(16);
        for (int i = 0; i < 600; i++) {
            clause(desk, 1);
        }
        return desk;
    }

    /** A desk whose clauses have so many literals together, each of them 1. */
    static LessonSolver withLiterals(int literals) {
        LessonSolver desk = new LessonSolver(16);
        for (int left = literals; left > 0; left -= 20) {
            addTimes(desk, 1, Math.min(20, left));
            desk.close();
        }
        return desk;
    }

    /** Beside 0, N + 1 and the ends of int: numbers that a shift or a cast would make literals. */
    static int[] notLiterals(int n) {
        return new int[] {
            0, n + 1, -(n + 1), n + 2, -(n + 2), 32, -32, 33, -33, 64 + n, -64 - n, 257, -257,
            65537, -65537, 1 << 30, -(1 << 30), Integer.MAX_VALUE, Integer.MAX_VALUE - 1,
            -Integer.MAX_VALUE, Integer.MIN_VALUE,
        };
    }
}
