/**
 * What the document says of the desk as a whole: desks share nothing, a call changes what its
 * promise says and nothing else, any number may be given, and all of 512 calls are answered.
 */
public final class WholeDocumentTest {
    private static final int NONE = LessonSolver.NONE;
    private static final int CALLS = 512;
    private static final Check CHECK = new Check();

    public static void main(String[] args) {
        desksShareNothing();
        aNewDeskKnowsNothingOfOthers();
        questionsChangeNothing();
        addChangesOnlyTheClauseBeingMade();
        closeLeavesTheAssumptions();
        closeWithoutRoomLeavesTheAssumptions();
        assumeLeavesTheClauses();
        retractLeavesTheClauses();
        refusedCallsChangeNothing();
        wipeLeavesANewDesk();
        anyNumbers();
        lastOfTheCalls();
        lessonsTakeNoRoom();
        CHECK.end();
    }

    /** Two clauses, two assumptions and two literals being made, of four variables. */
    private static LessonSolver ordinaryDesk() {
        LessonSolver desk = Desks.with(4, Desks.row(1, 2), Desks.row(-2, 3));
        Desks.assume(desk, -1, 4);
        desk.add(-3);
        desk.add(-4);
        return desk;
    }

    private static void hasCounts(String of, LessonSolver desk, int... counts) {
        for (int what = 0; what < counts.length; what++) {
            CHECK.due(of + ": count(" + what + ")", desk.count(what), counts[what]);
        }
        CHECK.due(of + ": count(4)", desk.count(4), 0);
    }

    private static void desksShareNothing() {
        LessonSolver one = new LessonSolver(2);
        LessonSolver other = new LessonSolver(5);
        CHECK.due("one: add", one.add(1), true);
        CHECK.due("other: close", other.close(), 1);
        CHECK.due("one: close", one.close(), 1);
        CHECK.due("other: assume", other.assume(5), 1);
        CHECK.due("one: assume", one.assume(-1), 1);
        CHECK.due("one: assume", one.assume(2), 2);
        hasCounts("one", one, 1, 1, 2, 0);
        hasCounts("other", other, 1, 0, 1, 0);
        CHECK.due("one: core", one.core(), 1);
        CHECK.due("other: core", other.core(), 0);
        other.wipe();
        CHECK.due("other: least after its wipe", other.least(), 0);
        CHECK.due("one: no model still", one.solve(), false);
        CHECK.due("one: 3 is no literal of it", one.add(3), false);
        CHECK.due("other: 3 is one", other.add(3), true);
    }

    private static void aNewDeskKnowsNothingOfOthers() {
        LessonSolver old = ordinaryDesk();
        old.close();
        CHECK.due("an old desk: solve", old.solve(), false);
        LessonSolver desk = new LessonSolver(4);
        hasCounts("P1 beside an old desk", desk, 0, 0, 0, 0);
        CHECK.due("P1 beside an old desk: least", desk.least(), 0);
        CHECK.due("P1 beside an old desk: close", desk.close(), 1);
        CHECK.due("the old desk stays", old.count(0), 3);
    }

    private static void questionsChangeNothing() {
        LessonSolver desk = ordinaryDesk();
        for (int round = 0; round < 3; round++) {
            hasCounts("after questions", desk, 2, 4, 2, 2);
            CHECK.due("P6 solve again", desk.solve(), true);
            hasCounts("P6 after solve", desk, 2, 4, 2, 2);
            CHECK.due("P7 least again", desk.least(), 0b0111);
            hasCounts("P7 after least", desk, 2, 4, 2, 2);
            CHECK.due("P8 implied again", desk.implied(3), 1);
            CHECK.due("P8 implied again", desk.implied(-3), 0);
            hasCounts("P8 after implied", desk, 2, 4, 2, 2);
            CHECK.due("P9 core again", desk.core(), 0);
            hasCounts("P9 after core", desk, 2, 4, 2, 2);
        }
        CHECK.due("P3 the clause being made is as it was", desk.close(), 3);
        CHECK.due("P6 and binds", desk.solve(), false);
        CHECK.due("P9 both are to blame", desk.core(), 0b11);
        desk.retract(1);
        CHECK.due("P7 the clauses are as they were", desk.least(), 0b0110);
    }

    private static void addChangesOnlyTheClauseBeingMade() {
        LessonSolver desk = ordinaryDesk();
        CHECK.due("P2 add", desk.add(1), true);
        hasCounts("P2 after add", desk, 2, 4, 2, 3);
        CHECK.due("P2 least stays", desk.least(), 0b0111);
    }

    private static void closeLeavesTheAssumptions() {
        LessonSolver desk = ordinaryDesk();
        CHECK.due("P3 close", desk.close(), 3);
        hasCounts("P3 after close", desk, 3, 6, 2, 0);
        CHECK.due("P3 the assumptions bind still", desk.core(), 0b11);
    }

    private static void closeWithoutRoomLeavesTheAssumptions() {
        LessonSolver desk = Desks.assume(Desks.fullOfClauses(), -16, 2);
        CHECK.due("P3 close without room", Desks.clause(desk, 16), NONE);
        hasCounts("P3 after close without room", desk, 600, 600, 2, 0);
        CHECK.due("P3 the assumptions bind still", desk.least(), 3L << 14);
    }

    private static void assumeLeavesTheClauses() {
        LessonSolver desk = ordinaryDesk();
        CHECK.due("P4 assume", desk.assume(3), 3);
        hasCounts("P4 after assume", desk, 2, 4, 3, 2);
        CHECK.due("P3 the clause being made is as it was", desk.close(), 3);
        CHECK.due("P9 core", desk.core(), 0b110);
    }

    private static void retractLeavesTheClauses() {
        LessonSolver desk = ordinaryDesk();
        CHECK.due("P5 retract", desk.retract(2), 0);
        hasCounts("P5 after retract", desk, 2, 4, 0, 2);
        CHECK.due("P5 least", desk.least(), 0b0110);
        CHECK.due("P3 the clause being made is as it was", desk.close(), 3);
        CHECK.due("P5 least with it", desk.least(), 0b0110);
        CHECK.due("P4 assume", desk.assume(4), 1);
        CHECK.due("P3 it binds", desk.least(), 0b1001);
    }

    private static void refusedCallsChangeNothing() {
        LessonSolver desk = ordinaryDesk();
        CHECK.due("P2 add(5)", desk.add(5), false);
        CHECK.due("P4 assume(-5)", desk.assume(-5), NONE);
        CHECK.due("P5 retract(3)", desk.retract(3), NONE);
        CHECK.due("P8 implied(0)", desk.implied(0), NONE);
        CHECK.due("P10 count(-1)", desk.count(-1), NONE);
        hasCounts("after refused calls", desk, 2, 4, 2, 2);
        CHECK.due("P7 least stays", desk.least(), 0b0111);
        CHECK.due("P3 the clause being made is as it was", desk.close(), 3);
        CHECK.due("P9 core", desk.core(), 0b11);
    }

    private static void wipeLeavesANewDesk() {
        LessonSolver desk = ordinaryDesk();
        desk.close();
        desk.core();
        desk.wipe();
        hasCounts("P11 after wipe", desk, 0, 0, 0, 0);
        CHECK.due("P11 least", desk.least(), 0);
        for (int v = 1; v <= 4; v++) {
            CHECK.due("P11 implied(" + v + ")", desk.implied(v), 0);
            CHECK.due("P11 implied(-" + v + ")", desk.implied(-v), 0);
        }
        CHECK.due("P11 core", desk.core(), 0);
    }

    /** Any int for each call that takes one, far from what is right or close to it. */
    private static void anyNumbers() {
        for (int run = 0; run < 40; run++) {
            Numbers numbers = new Numbers(50000 + run);
            int variables = anyNumber(numbers);
            LessonSolver desk = new LessonSolver(variables);
            PlainDesk plain = new PlainDesk(variables);
            for (int call = 0; call < CALLS && CHECK.allRight(); call++) {
                callBoth("any numbers, run " + run + ": ", desk, plain, numbers);
            }
        }
    }

    private static int anyNumber(Numbers numbers) {
        int whole = numbers.below(1 << 16) << 16 | numbers.below(1 << 16);
        return whole >> (numbers.below(2) == 0 ? numbers.below(32) : 27 + numbers.below(5));
    }

    private static void callBoth(String at, LessonSolver desk, PlainDesk plain, Numbers numbers) {
        int x = anyNumber(numbers);
        switch (numbers.below(9)) {
            case 0:
            case 1:
                CHECK.due(at + "add(" + x + ")", desk.add(x), plain.add(x));
                break;
            case 2:
                if (plain.count(3) > 0) {
                    CHECK.due(at + "close()", desk.close(), plain.close());
                }
                break;
            case 3:
                CHECK.due(at + "assume(" + x + ")", desk.assume(x), plain.assume(x));
                break;
            case 4:
                CHECK.due(at + "retract(" + x + ")", desk.retract(x), plain.retract(x));
                break;
            case 5:
                CHECK.due(at + "implied(" + x + ")", desk.implied(x), plain.implied(x));
                break;
            case 6:
                CHECK.due(at + "least()", desk.least(), plain.least());
                break;
            case 7:
                CHECK.due(at + "core()", desk.core(), plain.core());
                break;
            default:
                CHECK.due(at + "count(" + x + ")", desk.count(x), plain.count(x));
        }
    }

    /** Each question as call number 512, on a desk with as many assumptions as it can have. */
    private static void lastOfTheCalls() {
        for (int question = 0; question < 5; question++) {
            Numbers numbers = new Numbers(60000 + question / 2);
            LessonSolver desk = new LessonSolver(16);
            PlainDesk plain = new PlainDesk(16);
            int calls = 0;
            for (; calls < CALLS - 41; calls++) {
                boolean closes = calls % 6 == 5;
                int literal = numbers.literal(16);
                CHECK.due("a clause", closes ? desk.close() : desk.add(literal) ? 1 : 0,
                    closes ? plain.close() : plain.add(literal) ? 1 : 0);
            }
            int least = plain.least();
            for (; calls < CALLS - 1; calls++) {
                int v = 1 + calls % 16;
                boolean one = (least >> (16 - v) & 1) == 1;
                int literal = one == (question % 2 == 0 || calls % 9 != 0) ? v : -v;
                CHECK.due("an assumption", desk.assume(literal), plain.assume(literal));
            }
            askLast("call " + (calls + 1) + ": ", desk, plain, question);
        }
    }

    private static void askLast(String at, LessonSolver desk, PlainDesk plain, int question) {
        switch (question) {
            case 0:
                CHECK.due(at + "least", desk.least(), plain.least());
                break;
            case 1:
                CHECK.due(at + "core", desk.core(), plain.core());
                break;
            case 2:
                CHECK.due(at + "implied", desk.implied(-16), plain.implied(-16));
                break;
            case 3:
                CHECK.due(at + "solve", desk.solve(), plain.solve());
                break;
            default:
                CHECK.due(at + "count", desk.count(2), plain.count(2));
        }
    }

    /** What was learned is no clause of the desk: all 600 come, and the last of them binds. */
    private static void lessonsTakeNoRoom() {
        LessonSolver desk = new LessonSolver(16);
        PlainDesk plain = new PlainDesk(16);
        // With these numbers the sums have a model, and the search for it fills the room for lessons.
        Sums.closeBoth("sums: ", CHECK, desk, plain, new Numbers(40002));
        int model = plain.least();
        CHECK.due("sums: least", desk.least(), model);
        CHECK.due("lessons are no clauses", desk.count(0), 88);
        CHECK.due("nor are theirs literals", desk.count(1), 352);
        for (int i = 89; i < 600; i++) {
            int v = 1 + i % 16;
            int w = 1 + (i + 1 + i / 16 % 15) % 16;
            closeBoth("clause " + i, desk, plain, trueIn(model, v), -trueIn(model, w));
        }
        int[] opposite = new int[16];
        for (int v = 1; v <= 16; v++) {
            opposite[v - 1] = -trueIn(model, v);
        }
        closeBoth("clause 600", desk, plain, opposite);
        CHECK.due("clause 600 rules the model out", desk.least() != model, true);
        CHECK.due("clause 600: least", desk.least(), plain.least());
        closeBoth("clause 601", desk, plain, 1);
        CHECK.due("clause 601: count", desk.count(0), 600);
    }

    private static int trueIn(int model, int v) {
        return (model >> (16 - v) & 1) == 1 ? v : -v;
    }

    private static void closeBoth(String at, LessonSolver desk, PlainDesk plain, int... literals) {
        for (int literal : literals) {
            CHECK.due(at + ": add(" + literal + ")", desk.add(literal), plain.add(literal));
        }
        CHECK.due(at + ": close()", desk.close(), plain.close());
    }
}
