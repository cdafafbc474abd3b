/** The edges of promises 6 to 9, each sentence by itself. */
public final class EdgesOfAnswersTest {
    private static final int NONE = LessonSolver.NONE;
    private static final Check CHECK = new Check();

    public static void main(String[] args) {
        noClausesHaveAModel();
        aClauseWithoutLiteralsHasNone();
        assumptionsAgainstEachOther();
        theSameAssumptionTwice();
        anAssumptionAgainstAClause();
        everyAssignmentRuledOut();
        allButOneAssignmentRuledOut();
        variableOneIsTheHighestBit();
        theLowestAndTheHighestModel();
        variableOneIsOrderedFirst();
        leastIsNoneWithoutAModel();
        impliedOfNoLiteral();
        impliedWithoutAModel();
        impliedByNothing();
        impliedByAnAssumption();
        impliedByAClause();
        impliedInAllModelsButOne();
        impliedChangesNothing();
        coreWithAModel();
        coreWithoutAssumptions();
        coreOfClausesWithoutAModel();
        coreHasBitZeroForTheFirst();
        coreHasABitForEachOfForty();
        coreOfTheMostAssumptions();
        coreLeavesOutTheEarlier();
        coreIsNotTheSmallest();
        coreOfOneAssumptionTwice();
        coreAfterRetract();
        coreChangesNothing();
        CHECK.end();
    }

    private static void noClausesHaveAModel() {
        for (int n = 1; n <= 16; n++) {
            LessonSolver desk = new LessonSolver(n);
            CHECK.due("P6 no clauses", desk.solve(), true);
            Desks.assume(desk, 1, -n);
            CHECK.due("P6 no clauses, 1 and -N assumed", desk.solve(), n > 1);
        }
    }

    private static void aClauseWithoutLiteralsHasNone() {
        for (int n = 1; n <= 16; n++) {
            LessonSolver desk = Desks.with(n, Desks.row());
            CHECK.due("P6 a clause without literals", desk.solve(), false);
            desk.assume(1);
            CHECK.due("P6 a clause without literals, 1 assumed", desk.solve(), false);
            Desks.clause(desk, 1);
            CHECK.due("P6 a clause without literals, and another", desk.solve(), false);
        }
        LessonSolver last = Desks.with(2, Desks.row(1, 2), Desks.row());
        CHECK.due("P6 a clause without literals as the last", last.solve(), false);
    }

    private static void assumptionsAgainstEachOther() {
        for (int v = 1; v <= 16; v++) {
            LessonSolver desk = Desks.assume(new LessonSolver(16), v, -v);
            CHECK.due("P6 v and -v assumed", desk.solve(), false);
            CHECK.due("P6 retract", desk.retract(1), 1);
            CHECK.due("P6 v alone assumed", desk.solve(), true);
        }
        LessonSolver apart = Desks.assume(new LessonSolver(3), -2, 1, 3, 2);
        CHECK.due("P6 -2 first and 2 last", apart.solve(), false);
        LessonSolver clause = Desks.assume(Desks.with(3, Desks.row(2)), 1, -1);
        CHECK.due("P6 against each other beside a clause", clause.solve(), false);
    }

    private static void theSameAssumptionTwice() {
        LessonSolver desk = Desks.assume(new LessonSolver(3), -2, 3, -2, 3);
        CHECK.due("P6 the same twice", desk.solve(), true);
        CHECK.due("P7 the same twice", desk.least(), 1);
    }

    private static void anAssumptionAgainstAClause() {
        LessonSolver desk = Desks.assume(Desks.with(3, Desks.row(3)), -3);
        CHECK.due("P6 against a clause", desk.solve(), false);
        desk.retract(1);
        CHECK.due("P6 without it", desk.solve(), true);
        desk.assume(3);
        CHECK.due("P6 as the clause says", desk.solve(), true);
    }

    /** Rules out the assignments from the first one on, this many of them. */
    private static LessonSolver ruledOut(int n, int assignments) {
        LessonSolver desk = new LessonSolver(n);
        for (int a = 0; a < assignments; a++) {
            for (int v = 1; v <= n; v++) {
                desk.add((a >> (n - v) & 1) == 0 ? v : -v);
            }
            desk.close();
        }
        return desk;
    }

    private static void everyAssignmentRuledOut() {
        for (int n = 1; n <= 6; n++) {
            LessonSolver desk = ruledOut(n, 1 << n);
            CHECK.due("P6 all ruled out of " + n, desk.solve(), false);
            CHECK.due("P7 all ruled out of " + n, desk.least(), NONE);
        }
    }

    private static void allButOneAssignmentRuledOut() {
        for (int n = 1; n <= 6; n++) {
            int last = (1 << n) - 1;
            LessonSolver desk = ruledOut(n, last);
            CHECK.due("P6 only the last is left of " + n, desk.solve(), true);
            CHECK.due("P7 only the last is left of " + n, desk.least(), last);
            desk.assume(-n);
            CHECK.due("P7 and is assumed away", desk.least(), NONE);
        }
    }

    private static void variableOneIsTheHighestBit() {
        for (int n = 1; n <= 16; n++) {
            for (int v = 1; v <= n; v++) {
                LessonSolver assumed = Desks.assume(new LessonSolver(n), v);
                CHECK.due("P7 " + v + " of " + n + " assumed", assumed.least(), 1L << (n - v));
                LessonSolver clause = Desks.with(n, Desks.row(v));
                CHECK.due("P7 clause " + v + " of " + n, clause.least(), 1L << (n - v));
            }
        }
    }

    private static void theLowestAndTheHighestModel() {
        for (int n = 1; n <= 16; n++) {
            LessonSolver desk = new LessonSolver(n);
            CHECK.due("P7 all 0 of " + n, desk.least(), 0);
            for (int v = 1; v <= n; v++) {
                Desks.clause(desk, v);
            }
            CHECK.due("P7 all 1 of " + n, desk.least(), (1L << n) - 1);
        }
    }

    private static void variableOneIsOrderedFirst() {
        for (int n = 2; n <= 16; n++) {
            LessonSolver desk = Desks.with(n, Desks.row(1, n));
            CHECK.due("P7 N is 1 before 1 is", desk.least(), 1);
            for (int v = 2; v <= n; v++) {
                Desks.clause(desk, 1, v);
            }
            CHECK.due("P7 all others are 1 before 1 is", desk.least(), (1L << (n - 1)) - 1);
            Desks.clause(desk, 1, -n);
            CHECK.due("P7 only then 1 is", desk.least(), 1L << (n - 1));
        }
    }

    private static void leastIsNoneWithoutAModel() {
        LessonSolver empty = Desks.with(3, Desks.row());
        CHECK.due("P7 a clause without literals", empty.least(), NONE);
        LessonSolver assumed = Desks.assume(new LessonSolver(3), 3, -3);
        CHECK.due("P7 assumptions against each other", assumed.least(), NONE);
        assumed.retract(1);
        CHECK.due("P7 one of them", assumed.least(), 1);
        LessonSolver clauses = Desks.with(1, Desks.row(1), Desks.row(-1));
        CHECK.due("P7 clauses against each other", clauses.least(), NONE);
    }

    private static void impliedOfNoLiteral() {
        for (int literal : Desks.notLiterals(3)) {
            LessonSolver desk = Desks.with(3, Desks.row(1));
            CHECK.due("P8 implied(" + literal + ") with a model", desk.implied(literal), NONE);
            desk.assume(-1);
            CHECK.due("P8 implied(" + literal + ") without one", desk.implied(literal), NONE);
        }
    }

    private static void impliedWithoutAModel() {
        LessonSolver empty = Desks.with(3, Desks.row());
        LessonSolver assumed = Desks.assume(new LessonSolver(3), 1, -1);
        LessonSolver against = Desks.assume(Desks.with(3, Desks.row(1)), -1);
        for (int literal = -3; literal <= 3; literal++) {
            CHECK.due("P8 a clause without literals", empty.implied(literal), NONE);
            CHECK.due("P8 assumptions against each other", assumed.implied(literal), NONE);
            CHECK.due("P8 an assumption against a clause", against.implied(literal), NONE);
        }
    }

    private static void impliedByNothing() {
        LessonSolver desk = new LessonSolver(16);
        for (int v = 1; v <= 16; v++) {
            CHECK.due("P8 implied(" + v + ") by nothing", desk.implied(v), 0);
            CHECK.due("P8 implied(-" + v + ") by nothing", desk.implied(-v), 0);
        }
    }

    private static void impliedByAnAssumption() {
        for (int v = 1; v <= 16; v++) {
            LessonSolver desk = Desks.assume(new LessonSolver(16), -v);
            CHECK.due("P8 an assumption", desk.implied(-v), 1);
            CHECK.due("P8 its opposite", desk.implied(v), 0);
            desk.retract(1);
            CHECK.due("P8 when it is gone", desk.implied(-v), 0);
        }
    }

    private static void impliedByAClause() {
        for (int v = 1; v <= 16; v++) {
            LessonSolver desk = Desks.with(16, Desks.row(-v));
            CHECK.due("P8 a clause of one", desk.implied(-v), 1);
            CHECK.due("P8 its opposite", desk.implied(v), 0);
        }
    }

    private static void impliedInAllModelsButOne() {
        LessonSolver desk = ruledOut(4, 7);
        CHECK.due("P8 1 is 0 in the first model alone", desk.implied(1), 0);
        CHECK.due("P8 -1", desk.implied(-1), 0);
        Desks.clause(desk, 1, -2, -3, -4);
        CHECK.due("P8 1 is 1 in all", desk.implied(1), 1);
        CHECK.due("P8 -1", desk.implied(-1), 0);
    }

    private static void impliedChangesNothing() {
        LessonSolver desk = Desks.assume(Desks.with(3, Desks.row(1, 2)), -3);
        desk.add(3);
        for (int literal = -4; literal <= 4; literal++) {
            desk.implied(literal);
        }
        CHECK.due("P8 clauses stay", desk.count(0), 1);
        CHECK.due("P8 literals stay", desk.count(1), 2);
        CHECK.due("P8 assumptions stay", desk.count(2), 1);
        CHECK.due("P8 the clause being made stays", desk.count(3), 1);
        CHECK.due("P8 the least model stays", desk.least(), 2);
        CHECK.due("P8 what was asked does not bind", desk.implied(1), 0);
    }

    private static void coreWithAModel() {
        LessonSolver desk = Desks.assume(Desks.with(3, Desks.row(1, 2)), 1, 1, -2);
        CHECK.due("P9 with a model", desk.core(), 0);
        LessonSolver full = new LessonSolver(2);
        Desks.assumeTimes(full, -2, 40);
        CHECK.due("P9 with a model, of 40", full.core(), 0);
    }

    private static void coreWithoutAssumptions() {
        LessonSolver desk = new LessonSolver(3);
        CHECK.due("P9 of nothing", desk.core(), 0);
        desk.close();
        CHECK.due("P9 no assumptions and no model", desk.core(), 0);
    }

    private static void coreOfClausesWithoutAModel() {
        LessonSolver empty = Desks.assume(Desks.with(3, Desks.row()), 1, -1, 2);
        CHECK.due("P9 a clause without literals is to blame", empty.core(), 0);
        LessonSolver clauses = Desks.assume(ruledOut(3, 8), 1, 2, -3);
        CHECK.due("P9 the clauses are to blame", clauses.core(), 0);
    }

    private static void coreHasBitZeroForTheFirst() {
        LessonSolver desk = Desks.assume(Desks.with(3, Desks.row(-1)), 1, 2, 3);
        CHECK.due("P9 the first alone", desk.core(), 1);
        LessonSolver two = Desks.assume(new LessonSolver(3), 1, 2, -1, 3);
        CHECK.due("P9 the first and the third", two.core(), 5);
    }

    private static void coreHasABitForEachOfForty() {
        for (int k = 0; k < 40; k++) {
            LessonSolver desk = Desks.with(16, Desks.row(-16));
            Desks.assumeTimes(desk, 1, k);
            desk.assume(16);
            Desks.assumeTimes(desk, 2, 39 - k);
            CHECK.due("P9 only assumption " + k, desk.core(), 1L << k);
        }
    }

    private static void coreOfTheMostAssumptions() {
        LessonSolver desk = new LessonSolver(16);
        for (int v = 1; v <= 16; v++) {
            desk.add(-v);
        }
        desk.close();
        for (int i = 0; i < 40; i++) {
            desk.assume(1 + i % 16);
        }
        CHECK.due("P9 the last 16 of 40", desk.core(), 0xFFFFL << 24);
    }

    private static void coreLeavesOutTheEarlier() {
        LessonSolver desk = Desks.with(4, Desks.row(-1, -2), Desks.row(-3, -4));
        Desks.assume(desk, 1, 2, 3, 4);
        CHECK.due("P9 the earlier pair goes", desk.core(), 0b1100);
        desk.retract(4);
        Desks.assume(desk, 1, 3, 4, 2);
        CHECK.due("P9 the pair goes whose first is earlier", desk.core(), 0b0110);
    }

    private static void coreIsNotTheSmallest() {
        LessonSolver desk = Desks.with(3, Desks.row(-1), Desks.row(-2, -3));
        Desks.assume(desk, 1, 2, 3);
        CHECK.due("P9 the first goes, though it would do alone", desk.core(), 0b110);
        desk.retract(3);
        Desks.assume(desk, 2, 3, 1);
        CHECK.due("P9 the last does alone", desk.core(), 0b100);
    }

    private static void coreOfOneAssumptionTwice() {
        LessonSolver desk = Desks.assume(Desks.with(2, Desks.row(-2)), 2, 1, 2, 1);
        CHECK.due("P9 the later of the same is kept", desk.core(), 0b100);
        LessonSolver wide = new LessonSolver(2);
        Desks.assumeTimes(wide, 1, 39);
        wide.assume(-1);
        CHECK.due("P9 bits 38 and 39", wide.core(), 3L << 38);
    }

    private static void coreAfterRetract() {
        LessonSolver desk = Desks.assume(Desks.with(3, Desks.row(-1, -2)), 1, 2, 3, 1);
        CHECK.due("P9 with the fourth", desk.core(), 0b1010);
        desk.retract(1);
        CHECK.due("P9 without the fourth", desk.core(), 0b0011);
        desk.retract(2);
        CHECK.due("P9 a model again", desk.core(), 0);
    }

    private static void coreChangesNothing() {
        LessonSolver desk = Desks.assume(Desks.with(3, Desks.row(-1)), 2, 1, 3);
        desk.add(3);
        CHECK.due("P9 core", desk.core(), 0b010);
        CHECK.due("P9 clauses stay", desk.count(0), 1);
        CHECK.due("P9 assumptions stay", desk.count(2), 3);
        CHECK.due("P9 the clause being made stays", desk.count(3), 1);
        CHECK.due("P9 core again", desk.core(), 0b010);
        desk.retract(2);
        CHECK.due("P9 what was left out stays assumed", desk.least(), 2);
    }
}
