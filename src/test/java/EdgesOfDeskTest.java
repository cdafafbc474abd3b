/** The edges of promises 1, 10 and 11 and of what a literal is, each sentence by itself. */
public final class EdgesOfDeskTest {
    private static final int NONE = LessonSolver.NONE;
    private static final Check CHECK = new Check();

    public static void main(String[] args) {
        fewerThanOneVariableAreOne();
        moreThanSixteenVariablesAreSixteen();
        oneToSixteenVariablesStay();
        aNewDeskHasNoClauses();
        everyLiteralIsOne();
        otherNumbersAreNoLiterals();
        aWrongLiteralChangesNothing();
        anotherWhatIsNone();
        clausesAreCounted();
        literalsAreCounted();
        assumptionsAreCounted();
        literalsBeingMadeAreCounted();
        lessonsFollowByUnits();
        wipeTakesTheClauses();
        wipeTakesTheAssumptions();
        wipeTakesTheClauseBeingMade();
        wipeTakesWhatWasLearned();
        wipeKeepsTheVariables();
        wipeOfNothingChangesNothing();
        wipeMakesRoomForClauses();
        wipeMakesRoomForLiterals();
        wipeMakesRoomForAssumptions();
        wipeMakesRoomInTheClause();
        CHECK.end();
    }

    private static void hasVariables(int asked, int n) {
        LessonSolver desk = new LessonSolver(asked);
        String of = "P1 asked for " + asked + ": ";
        CHECK.due(of + "add(N)", desk.add(n), true);
        CHECK.due(of + "add(-N)", desk.add(-n), true);
        CHECK.due(of + "add(N + 1)", desk.add(n + 1), false);
        CHECK.due(of + "add(-N - 1)", desk.add(-n - 1), false);
        CHECK.due(of + "assume(N + 1)", desk.assume(n + 1), NONE);
        CHECK.due(of + "assume(1)", desk.assume(1), 1);
        CHECK.due(of + "least() is the highest of N bits", desk.least(), 1L << (n - 1));
        CHECK.due(of + "implied(-N - 1)", desk.implied(-n - 1), NONE);
    }

    private static void fewerThanOneVariableAreOne() {
        int[] asked = {0, -1, -2, -15, -16, -17, -32, -65536, -Integer.MAX_VALUE, Integer.MIN_VALUE};
        for (int variables : asked) {
            hasVariables(variables, 1);
        }
    }

    private static void moreThanSixteenVariablesAreSixteen() {
        int[] asked = {17, 18, 31, 32, 33, 64, 257, 65536, 1 << 30, Integer.MAX_VALUE};
        for (int variables : asked) {
            hasVariables(variables, 16);
        }
    }

    private static void oneToSixteenVariablesStay() {
        for (int variables = 1; variables <= 16; variables++) {
            hasVariables(variables, variables);
        }
    }

    private static void aNewDeskHasNoClauses() {
        for (int variables = 0; variables <= 17; variables++) {
            LessonSolver desk = new LessonSolver(variables);
            CHECK.due("P1 clauses of a new desk", desk.count(0), 0);
            CHECK.due("P1 literals of a new desk", desk.count(1), 0);
            CHECK.due("P1 assumptions of a new desk", desk.count(2), 0);
            CHECK.due("P1 literals being made on a new desk", desk.count(3), 0);
            CHECK.due("P1 lessons on a new desk", desk.count(4), 0);
            CHECK.due("P1 a new desk has a model", desk.solve(), true);
            CHECK.due("P1 the first clause is the first", desk.close(), 1);
        }
    }

    private static void everyLiteralIsOne() {
        for (int n = 1; n <= 16; n++) {
            for (int v = 1; v <= n; v++) {
                LessonSolver desk = new LessonSolver(n);
                CHECK.due("literals: add(" + v + ") of " + n, desk.add(v), true);
                CHECK.due("literals: add(-" + v + ") of " + n, desk.add(-v), true);
                CHECK.due("literals: implied(" + v + ") of " + n, desk.implied(v), 0);
                CHECK.due("literals: implied(-" + v + ") of " + n, desk.implied(-v), 0);
                CHECK.due("literals: assume(" + v + ") of " + n, desk.assume(v), 1);
                CHECK.due("literals: assume(-" + v + ") of " + n, desk.assume(-v), 2);
            }
        }
    }

    private static void otherNumbersAreNoLiterals() {
        for (int n = 1; n <= 16; n++) {
            for (int literal : Desks.notLiterals(n)) {
                LessonSolver desk = new LessonSolver(n);
                String of = "(" + literal + ") of " + n;
                CHECK.due("P2 add" + of, desk.add(literal), false);
                CHECK.due("P4 assume" + of, desk.assume(literal), NONE);
                CHECK.due("P8 implied" + of, desk.implied(literal), NONE);
            }
        }
    }

    private static void aWrongLiteralChangesNothing() {
        for (int n = 2; n <= 16; n++) {
            for (int literal : Desks.notLiterals(n)) {
                LessonSolver desk = Desks.with(n, Desks.row(1, 2));
                desk.assume(-1);
                desk.add(-2);
                desk.add(literal);
                desk.assume(literal);
                desk.implied(literal);
                String after = " after the number " + literal + " of " + n;
                CHECK.due("clauses" + after, desk.count(0), 1);
                CHECK.due("literals" + after, desk.count(1), 2);
                CHECK.due("assumptions" + after, desk.count(2), 1);
                CHECK.due("literals being made" + after, desk.count(3), 1);
                CHECK.due("least" + after, desk.least(), 1L << (n - 2));
                CHECK.due("close" + after, desk.close(), 2);
                CHECK.due("the clause being made" + after, desk.solve(), false);
                CHECK.due("core" + after, desk.core(), 1);
            }
        }
    }

    private static void anotherWhatIsNone() {
        int[] others = {
            -1, -2, -4, -5, 5, 6, 7, 8, 16, 32, 36, 256, 260, 65536, 65540, 1 << 30,
            Integer.MAX_VALUE, -Integer.MAX_VALUE, Integer.MIN_VALUE, Integer.MIN_VALUE + 4,
        };
        LessonSolver desk = Desks.assume(Desks.with(3, Desks.row(1, 2)), 3);
        desk.add(1);
        for (int what : others) {
            CHECK.due("P10 count(" + what + ")", desk.count(what), NONE);
        }
    }

    private static void clausesAreCounted() {
        LessonSolver desk = Desks.with(3, Desks.row(1), Desks.row(1), Desks.row(2, -2), Desks.row());
        CHECK.due("P10 the same, an always true and an empty clause", desk.count(0), 4);
        desk.add(1);
        CHECK.due("P10 the clause being made is none yet", desk.count(0), 4);
        LessonSolver full = Desks.fullOfClauses();
        Desks.clause(full, 2);
        CHECK.due("P10 a refused clause is none", full.count(0), 600);
    }

    private static void literalsAreCounted() {
        LessonSolver desk = Desks.with(3, Desks.row(1, 1, 1), Desks.row(2, -2), Desks.row());
        CHECK.due("P10 each of the same literals", desk.count(1), 5);
        desk.add(1);
        CHECK.due("P10 not those being made", desk.count(1), 5);
        LessonSolver full = Desks.withLiterals(4000);
        Desks.clause(full, 2);
        CHECK.due("P10 not those of a refused clause", full.count(1), 4000);
    }

    private static void assumptionsAreCounted() {
        LessonSolver desk = Desks.assume(new LessonSolver(3), 1, 1, -1, 2);
        CHECK.due("P10 each of the same, and the opposite", desk.count(2), 4);
        desk.solve();
        desk.implied(3);
        desk.core();
        CHECK.due("P10 questions leave them", desk.count(2), 4);
        desk.retract(3);
        CHECK.due("P10 those that are left", desk.count(2), 1);
    }

    private static void literalsBeingMadeAreCounted() {
        LessonSolver desk = new LessonSolver(3);
        Desks.addTimes(desk, 2, 3);
        desk.add(-2);
        CHECK.due("P10 each of the same, and the opposite", desk.count(3), 4);
        desk.close();
        CHECK.due("P10 none after close", desk.count(3), 0);
        LessonSolver full = Desks.fullOfClauses();
        full.add(2);
        full.close();
        CHECK.due("P10 none after a refused close", full.count(3), 0);
    }

    private static void lessonsFollowByUnits() {
        LessonSolver desk = new LessonSolver(4);
        for (int signs = 0; signs < 16; signs++) {
            for (int v = 1; v <= 4; v++) {
                desk.add((signs >> (v - 1) & 1) == 0 ? v : -v);
            }
            desk.close();
            desk.solve();
            CHECK.due("P10 learned clauses that do not follow", desk.count(4), 0);
        }
        CHECK.due("P10 no assignment is left", desk.solve(), false);
        desk.wipe();
        CHECK.due("P10 learned clauses after wipe", desk.count(4), 0);
    }

    private static void wipeTakesTheClauses() {
        LessonSolver desk = Desks.with(3, Desks.row(1), Desks.row(2, 3), Desks.row());
        desk.wipe();
        CHECK.due("P11 clauses", desk.count(0), 0);
        CHECK.due("P11 literals", desk.count(1), 0);
        CHECK.due("P11 a model", desk.solve(), true);
        CHECK.due("P11 the least model", desk.least(), 0);
        CHECK.due("P11 the next clause is the first", Desks.clause(desk, 3), 1);
        CHECK.due("P11 and the only one", desk.least(), 1);
    }

    private static void wipeTakesTheAssumptions() {
        LessonSolver desk = Desks.assume(new LessonSolver(3), 1, -1, 2);
        desk.wipe();
        CHECK.due("P11 assumptions", desk.count(2), 0);
        CHECK.due("P11 nothing to retract", desk.retract(1), NONE);
        CHECK.due("P11 without the assumptions", desk.least(), 0);
        CHECK.due("P11 nothing to blame", desk.core(), 0);
        CHECK.due("P11 the next assumption is the first", desk.assume(3), 1);
        CHECK.due("P11 and the only one", desk.least(), 1);
    }

    private static void wipeTakesTheClauseBeingMade() {
        LessonSolver desk = new LessonSolver(3);
        desk.add(1);
        desk.add(-2);
        desk.wipe();
        CHECK.due("P11 literals being made", desk.count(3), 0);
        CHECK.due("P11 add", desk.add(3), true);
        CHECK.due("P11 close", desk.close(), 1);
        CHECK.due("P11 only the new literal is in it", desk.count(1), 1);
        CHECK.due("P11 and binds", desk.least(), 1);
        desk.wipe();
        CHECK.due("P11 close of nothing", desk.close(), 1);
        CHECK.due("P11 is a clause without literals", desk.solve(), false);
    }

    private static void wipeTakesWhatWasLearned() {
        LessonSolver desk = Desks.with(
            3, Desks.row(1, 2), Desks.row(1, -2), Desks.row(-1, 3), Desks.row(-1, -3));
        CHECK.due("P11 no model before", desk.solve(), false);
        desk.wipe();
        CHECK.due("P11 a model after", desk.solve(), true);
        CHECK.due("P11 1 is free again", desk.implied(1), 0);
        CHECK.due("P11 and so is -1", desk.implied(-1), 0);
    }

    private static void wipeKeepsTheVariables() {
        for (int n = 1; n <= 16; n++) {
            LessonSolver desk = new LessonSolver(n);
            desk.wipe();
            CHECK.due("P11 add(N)", desk.add(n), true);
            CHECK.due("P11 add(N + 1)", desk.add(n + 1), false);
            CHECK.due("P11 assume(1)", desk.assume(1), 1);
            CHECK.due("P11 N bits", desk.least(), 1L << (n - 1));
        }
    }

    private static void wipeOfNothingChangesNothing() {
        LessonSolver desk = new LessonSolver(2);
        desk.wipe();
        desk.wipe();
        for (int what = 0; what <= 4; what++) {
            CHECK.due("P11 of nothing: count(" + what + ")", desk.count(what), 0);
        }
        CHECK.due("P11 of nothing: least", desk.least(), 0);
    }

    private static void wipeMakesRoomForClauses() {
        LessonSolver desk = Desks.fullOfClauses();
        desk.wipe();
        for (int i = 1; i <= 600; i++) {
            CHECK.due("P11 clauses again", Desks.clause(desk, 2), i);
        }
        CHECK.due("P11 and no more than before", Desks.clause(desk, 3), NONE);
        CHECK.due("P11 only the new ones bind", desk.least(), 1L << 14);
    }

    private static void wipeMakesRoomForLiterals() {
        LessonSolver desk = Desks.withLiterals(4000);
        desk.wipe();
        for (int i = 1; i <= 200; i++) {
            Desks.addTimes(desk, 2, 20);
            CHECK.due("P11 literals again", desk.close(), i);
        }
        CHECK.due("P11 and no more than before", Desks.clause(desk, 2), NONE);
    }

    private static void wipeMakesRoomForAssumptions() {
        LessonSolver desk = new LessonSolver(2);
        Desks.assumeTimes(desk, 1, 40);
        desk.wipe();
        for (int i = 1; i <= 40; i++) {
            CHECK.due("P11 assumptions again", desk.assume(2), i);
        }
        CHECK.due("P11 and no more than before", desk.assume(2), NONE);
    }

    private static void wipeMakesRoomInTheClause() {
        LessonSolver desk = new LessonSolver(2);
        Desks.addTimes(desk, 1, 20);
        desk.wipe();
        for (int i = 1; i <= 20; i++) {
            CHECK.due("P11 a clause of 20 again", desk.add(2), true);
        }
        CHECK.due("P11 and no more than before", desk.add(2), false);
    }
}
