/**
 * The edges of promises 2 to 5, each sentence by itself. 600 clauses and 4,000 literals lie beyond
 * the 512 calls after which answers are free; the desk keeps to its room there all the same.
 */
public final class EdgesOfRowsTest {
    private static final int NONE = LessonSolver.NONE;
    private static final Check CHECK = new Check();

    public static void main(String[] args) {
        aClauseTakesTwentyLiterals();
        aFullClauseStaysAsItIs();
        aFullClauseRefusesEveryNumber();
        afterAFullClauseTwentyComeAgain();
        aLiteralAndItsOppositeComeBoth();
        anAlwaysTrueClauseBindsNothing();
        whatIsNotClosedBindsNothing();
        aClauseMayHaveNoLiterals();
        closeBeginsAClauseWithoutLiterals();
        theSameClauseCountsAgain();
        theSixHundredthClauseComes();
        theNextClauseIsForgotten();
        theNextClauseIsForgottenAlsoWithoutLiterals();
        literalNumberFourThousandComes();
        theNextLiteralHasNoRoom();
        aClauseOverTheRoomIsForgottenWhole();
        withoutRoomForLiteralsAnEmptyClauseComes();
        fortyAssumptionsCome();
        theNextAssumptionIsRefused();
        fullAssumptionsRefuseEveryNumber();
        anAssumptionBecomesTheLast();
        retractMakesRoom();
        retractNothing();
        retractAll();
        retractOneTooMany();
        retractFewerThanNone();
        retractTheEndsOfInt();
        retractTakesTheLast();
        CHECK.end();
    }

    private static void aClauseTakesTwentyLiterals() {
        LessonSolver desk = new LessonSolver(16);
        for (int i = 1; i <= 20; i++) {
            CHECK.due("P2 add, number " + i, desk.add(i <= 16 ? i : i - 16), true);
        }
        CHECK.due("P2 add, number 21", desk.add(5), false);
        CHECK.due("P2 add, number 22", desk.add(-5), false);
    }

    private static void aFullClauseStaysAsItIs() {
        LessonSolver desk = new LessonSolver(3);
        Desks.addTimes(desk, -2, 19);
        desk.add(3);
        desk.add(1);
        CHECK.due("P2 a full clause has 20", desk.count(3), 20);
        CHECK.due("P2 close", desk.close(), 1);
        CHECK.due("P2 its literals", desk.count(1), 20);
        desk.assume(2);
        CHECK.due("P2 number 20 is in it", desk.least(), 3);
        desk.assume(-3);
        CHECK.due("P2 number 21 is not", desk.solve(), false);
    }

    private static void aFullClauseRefusesEveryNumber() {
        LessonSolver desk = new LessonSolver(5);
        Desks.addTimes(desk, 5, 20);
        for (int literal : Desks.notLiterals(5)) {
            CHECK.due("P2 add(" + literal + ") to 20", desk.add(literal), false);
        }
        for (int literal = -5; literal <= 5; literal++) {
            CHECK.due("P2 add(" + literal + ") to 20", desk.add(literal), false);
        }
        CHECK.due("P2 it has 20 still", desk.count(3), 20);
    }

    private static void afterAFullClauseTwentyComeAgain() {
        LessonSolver desk = new LessonSolver(4);
        Desks.addTimes(desk, 4, 21);
        desk.close();
        for (int i = 1; i <= 20; i++) {
            CHECK.due("P2 add to the next clause, number " + i, desk.add(3), true);
        }
        CHECK.due("P2 add to the next clause, number 21", desk.add(3), false);
    }

    private static void aLiteralAndItsOppositeComeBoth() {
        LessonSolver desk = new LessonSolver(4);
        CHECK.due("P2 add(3)", desk.add(3), true);
        CHECK.due("P2 add(-3)", desk.add(-3), true);
        CHECK.due("P2 add(4)", desk.add(4), true);
        CHECK.due("P2 all three are there", desk.count(3), 3);
        desk.close();
        Desks.assume(desk, 3, -4);
        CHECK.due("P2 the clause is true by 3", desk.least(), 2);
        desk.retract(2);
        Desks.assume(desk, -3, -4);
        CHECK.due("P2 the clause is true by -3", desk.least(), 0);
    }

    private static void anAlwaysTrueClauseBindsNothing() {
        for (int v = 1; v <= 16; v++) {
            LessonSolver desk = Desks.with(16, Desks.row(v, -v), Desks.row(-v, v, v));
            CHECK.due("P3 v and -v: clauses", desk.count(0), 2);
            CHECK.due("P3 v and -v: literals", desk.count(1), 5);
            CHECK.due("P3 v and -v: least", desk.least(), 0);
            CHECK.due("P3 v and -v: implied(v)", desk.implied(v), 0);
            CHECK.due("P3 v and -v: implied(-v)", desk.implied(-v), 0);
            desk.assume(v);
            CHECK.due("P3 v and -v: least, v assumed", desk.least(), 1L << (16 - v));
        }
    }

    private static void whatIsNotClosedBindsNothing() {
        LessonSolver desk = new LessonSolver(2);
        desk.add(1);
        CHECK.due("P3 before close", desk.least(), 0);
        CHECK.due("P3 before close: implied", desk.implied(1), 0);
        CHECK.due("P3 close", desk.close(), 1);
        CHECK.due("P3 after close", desk.least(), 2);
        CHECK.due("P3 after close: implied", desk.implied(1), 1);
    }

    private static void aClauseMayHaveNoLiterals() {
        LessonSolver desk = new LessonSolver(2);
        CHECK.due("P3 close of nothing", desk.close(), 1);
        CHECK.due("P3 close of nothing again", desk.close(), 2);
        CHECK.due("P3 literals", desk.count(1), 0);
        CHECK.due("P3 it is never true", desk.solve(), false);
    }

    private static void closeBeginsAClauseWithoutLiterals() {
        LessonSolver desk = new LessonSolver(2);
        Desks.clause(desk, 1);
        CHECK.due("P3 no literals after close", desk.count(3), 0);
        CHECK.due("P3 the next clause", Desks.clause(desk, 2), 2);
        CHECK.due("P3 each has its own literal", desk.least(), 3);
        CHECK.due("P3 literals", desk.count(1), 2);
    }

    private static void theSameClauseCountsAgain() {
        LessonSolver desk = new LessonSolver(2);
        CHECK.due("P3 a clause", Desks.clause(desk, 1, 2), 1);
        CHECK.due("P3 the same clause", Desks.clause(desk, 1, 2), 2);
        CHECK.due("P3 the same in another order", Desks.clause(desk, 2, 1), 3);
        CHECK.due("P3 one that is always true", Desks.clause(desk, 1, -1), 4);
    }

    private static void theSixHundredthClauseComes() {
        LessonSolver desk = new LessonSolver(16);
        for (int i = 1; i <= 599; i++) {
            CHECK.due("P3 clause " + i, Desks.clause(desk, i % 3 == 0 ? 1 : -2), i);
        }
        CHECK.due("P3 clause 600", Desks.clause(desk, 16), 600);
        CHECK.due("P3 clause 600 binds", desk.least(), 1 << 15 | 1);
    }

    private static void theNextClauseIsForgotten() {
        LessonSolver desk = Desks.fullOfClauses();
        CHECK.due("P3 clause 601", Desks.clause(desk, -1, 2), NONE);
        CHECK.due("P3 clauses stay", desk.count(0), 600);
        CHECK.due("P3 literals stay", desk.count(1), 600);
        CHECK.due("P3 it is forgotten", desk.count(3), 0);
        CHECK.due("P3 it does not bind", desk.least(), 1L << 15);
        CHECK.due("P3 the next one", Desks.clause(desk, -1), NONE);
        CHECK.due("P3 nor does that bind", desk.implied(1), 1);
    }

    private static void theNextClauseIsForgottenAlsoWithoutLiterals() {
        LessonSolver desk = Desks.fullOfClauses();
        CHECK.due("P3 clause 601 without literals", desk.close(), NONE);
        CHECK.due("P3 clauses stay", desk.count(0), 600);
        CHECK.due("P3 it does not bind", desk.solve(), true);
    }

    private static void literalNumberFourThousandComes() {
        LessonSolver desk = Desks.withLiterals(3999);
        CHECK.due("P3 literals before", desk.count(1), 3999);
        CHECK.due("P3 literal 4000", Desks.clause(desk, 16), 201);
        CHECK.due("P3 literals after", desk.count(1), 4000);
        CHECK.due("P3 it binds", desk.least(), 1 << 15 | 1);
    }

    private static void theNextLiteralHasNoRoom() {
        LessonSolver desk = Desks.withLiterals(4000);
        CHECK.due("P3 literal 4001", Desks.clause(desk, 16), NONE);
        CHECK.due("P3 clauses stay", desk.count(0), 200);
        CHECK.due("P3 literals stay", desk.count(1), 4000);
        CHECK.due("P3 it is forgotten", desk.count(3), 0);
        CHECK.due("P3 it does not bind", desk.least(), 1L << 15);
    }

    private static void aClauseOverTheRoomIsForgottenWhole() {
        LessonSolver desk = Desks.withLiterals(3990);
        Desks.addTimes(desk, 16, 11);
        CHECK.due("P3 11 literals where 10 have room", desk.close(), NONE);
        CHECK.due("P3 none of them came", desk.count(1), 3990);
        CHECK.due("P3 none of them is left", desk.count(3), 0);
        CHECK.due("P3 they do not bind", desk.least(), 1L << 15);
        Desks.addTimes(desk, 2, 10);
        CHECK.due("P3 10 literals have room", desk.close(), 201);
        CHECK.due("P3 only the 10 are in the clause", desk.least(), 3L << 14);
        CHECK.due("P3 literals", desk.count(1), 4000);
    }

    private static void withoutRoomForLiteralsAnEmptyClauseComes() {
        LessonSolver desk = Desks.withLiterals(4000);
        CHECK.due("P3 add", desk.add(3), true);
        CHECK.due("P3 has no room", desk.close(), NONE);
        CHECK.due("P3 a clause without literals has", desk.close(), 201);
        CHECK.due("P3 it binds", desk.solve(), false);
    }

    private static void fortyAssumptionsCome() {
        LessonSolver desk = new LessonSolver(16);
        for (int i = 1; i <= 40; i++) {
            CHECK.due("P4 assumption " + i, desk.assume(i == 40 ? -16 : 1 + i % 15), i);
        }
        CHECK.due("P4 number 40 binds", desk.implied(-16), 1);
        CHECK.due("P4 all bind", desk.least(), 65534);
    }

    private static void theNextAssumptionIsRefused() {
        LessonSolver desk = new LessonSolver(2);
        Desks.assumeTimes(desk, 2, 40);
        CHECK.due("P4 assumption 41", desk.assume(1), NONE);
        CHECK.due("P4 the same again as 41", desk.assume(2), NONE);
        CHECK.due("P4 there are 40 still", desk.count(2), 40);
        CHECK.due("P4 number 41 does not bind", desk.least(), 1);
        CHECK.due("P4 number 41 is not the last", desk.retract(1), 39);
        CHECK.due("P4 the others stay", desk.least(), 1);
    }

    private static void fullAssumptionsRefuseEveryNumber() {
        LessonSolver desk = new LessonSolver(5);
        Desks.assumeTimes(desk, 5, 40);
        for (int literal : Desks.notLiterals(5)) {
            CHECK.due("P4 assume(" + literal + ") to 40", desk.assume(literal), NONE);
        }
        for (int literal = -5; literal <= 5; literal++) {
            CHECK.due("P4 assume(" + literal + ") to 40", desk.assume(literal), NONE);
        }
        CHECK.due("P4 there are 40 still", desk.count(2), 40);
        CHECK.due("P4 they bind still", desk.least(), 1);
    }

    private static void anAssumptionBecomesTheLast() {
        LessonSolver desk = Desks.assume(new LessonSolver(4), 1, 2, 3);
        CHECK.due("P4 the last", desk.retract(1), 2);
        CHECK.due("P4 it went first", desk.least(), 12);
        CHECK.due("P4 another one comes", desk.assume(4), 3);
        CHECK.due("P4 to the others", desk.least(), 13);
    }

    private static void retractMakesRoom() {
        LessonSolver desk = new LessonSolver(3);
        Desks.assumeTimes(desk, 1, 40);
        desk.retract(1);
        CHECK.due("P4 room for one", desk.assume(3), 40);
        CHECK.due("P4 not for two", desk.assume(2), NONE);
        CHECK.due("P4 the one binds", desk.least(), 5);
    }

    private static void retractNothing() {
        LessonSolver desk = new LessonSolver(3);
        CHECK.due("P5 retract(0) of none", desk.retract(0), 0);
        Desks.assume(desk, 1, 2);
        CHECK.due("P5 retract(0) of 2", desk.retract(0), 2);
        CHECK.due("P5 both stay", desk.least(), 6);
    }

    private static void retractAll() {
        LessonSolver desk = Desks.assume(new LessonSolver(3), 1, 2, 3);
        CHECK.due("P5 retract(3) of 3", desk.retract(3), 0);
        CHECK.due("P5 none stays", desk.least(), 0);
        Desks.assumeTimes(desk, 1, 40);
        CHECK.due("P5 retract(40) of 40", desk.retract(40), 0);
        CHECK.due("P5 none of 40 stays", desk.least(), 0);
        CHECK.due("P5 the next is the first", desk.assume(3), 1);
    }

    private static void retractOneTooMany() {
        LessonSolver desk = new LessonSolver(3);
        CHECK.due("P5 retract(1) of none", desk.retract(1), NONE);
        Desks.assume(desk, 1, 2);
        CHECK.due("P5 retract(3) of 2", desk.retract(3), NONE);
        CHECK.due("P5 both stay", desk.count(2), 2);
        CHECK.due("P5 both bind", desk.least(), 6);
        Desks.assumeTimes(desk, 1, 38);
        CHECK.due("P5 retract(41) of 40", desk.retract(41), NONE);
        CHECK.due("P5 all stay", desk.count(2), 40);
    }

    private static void retractFewerThanNone() {
        LessonSolver desk = new LessonSolver(3);
        CHECK.due("P5 retract(-1) of none", desk.retract(-1), NONE);
        Desks.assume(desk, 1, 2);
        desk.retract(1);
        CHECK.due("P5 retract(-1) of 1", desk.retract(-1), NONE);
        CHECK.due("P5 retract(-2) of 1", desk.retract(-2), NONE);
        CHECK.due("P5 none comes back", desk.count(2), 1);
        CHECK.due("P5 the one binds", desk.least(), 4);
    }

    private static void retractTheEndsOfInt() {
        LessonSolver desk = Desks.assume(new LessonSolver(3), 1, 2);
        int[] wrong = {
            Integer.MIN_VALUE, Integer.MIN_VALUE + 1, Integer.MIN_VALUE + 2, -256, -65536, 256, 65536,
            Integer.MAX_VALUE - 1, Integer.MAX_VALUE,
        };
        for (int n : wrong) {
            CHECK.due("P5 retract(" + n + ")", desk.retract(n), NONE);
            CHECK.due("P5 both stay", desk.count(2), 2);
        }
        CHECK.due("P5 both bind", desk.least(), 6);
    }

    private static void retractTakesTheLast() {
        LessonSolver desk = Desks.assume(new LessonSolver(5), 1, 2, 3, 4, 5);
        CHECK.due("P5 retract(2) of 5", desk.retract(2), 3);
        CHECK.due("P5 1, 2 and 3 are left", desk.least(), 28);
        CHECK.due("P5 retract(1) of 3", desk.retract(1), 2);
        CHECK.due("P5 1 and 2 are left", desk.least(), 24);
    }
}
