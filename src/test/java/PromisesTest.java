/** Each promise by itself: ordinary inputs, the edges that the document names, wrong inputs. */
public final class PromisesTest {
    private static final int NONE = LessonSolver.NONE;
    private static final Check CHECK = new Check();
    private static final int[] NO_LITERALS_OF_3 = {
        0, 4, -4, 16, -16, 17, 32, 33, -33, Integer.MAX_VALUE, -Integer.MAX_VALUE, Integer.MIN_VALUE
    };

    public static void main(String[] args) {
        newObject();
        addition();
        closing();
        assuming();
        retracting();
        solving();
        leastModel();
        implying();
        blaming();
        counting();
        wiping();
        CHECK.end();
    }

    private static void clause(LessonSolver desk, int... literals) {
        for (int literal : literals) {
            CHECK.due("add(" + literal + ")", desk.add(literal), true);
        }
        int before = desk.count(0);
        CHECK.due("close()", desk.close(), before + 1);
    }

    private static void newObject() {
        int[][] asked = {
            {Integer.MIN_VALUE, 1}, {-1, 1}, {0, 1}, {1, 1}, {2, 2}, {7, 7}, {15, 15}, {16, 16},
            {17, 16}, {32, 16}, {Integer.MAX_VALUE, 16},
        };
        for (int[] row : asked) {
            LessonSolver desk = new LessonSolver(row[0]);
            String of = "P1 of " + row[0] + " variables: ";
            for (int what = 0; what <= 4; what++) {
                CHECK.due(of + "count(" + what + ")", desk.count(what), 0);
            }
            CHECK.due(of + "solve", desk.solve(), true);
            CHECK.due(of + "least", desk.least(), 0);
            CHECK.due(of + "core", desk.core(), 0);
            CHECK.due(of + "implied(N)", desk.implied(row[1]), 0);
            CHECK.due(of + "implied(N + 1)", desk.implied(row[1] + 1), NONE);
            CHECK.due(of + "add(-N)", desk.add(-row[1]), true);
            CHECK.due(of + "add(-N - 1)", desk.add(-row[1] - 1), false);
            CHECK.due(of + "assume(1)", desk.assume(1), 1);
            CHECK.due(of + "least, 1 assumed", desk.least(), 1L << (row[1] - 1));
        }
    }

    private static void addition() {
        LessonSolver desk = new LessonSolver(3);
        for (int literal : NO_LITERALS_OF_3) {
            CHECK.due("P2 add(" + literal + ")", desk.add(literal), false);
        }
        CHECK.due("P2 wrong ones do not come", desk.count(3), 0);
        for (int i = 0; i < 20; i++) {
            CHECK.due("P2 add, the " + i + "th", desk.add(i < 19 ? -2 : 3), true);
            CHECK.due("P2 length", desk.count(3), i + 1);
        }
        CHECK.due("P2 add to 20", desk.add(1), false);
        CHECK.due("P2 add to 20, a wrong one", desk.add(4), false);
        CHECK.due("P2 length stays", desk.count(3), 20);
        CHECK.due("P2 not closed yet", desk.count(1), 0);
        desk.assume(2);
        desk.assume(-3);
        CHECK.due("P2 not closed yet, no clause", desk.solve(), true);
        CHECK.due("P2 close", desk.close(), 1);
        CHECK.due("P2 the 21st did not come", desk.solve(), false);
        CHECK.due("P2 retract", desk.retract(1), 1);
        CHECK.due("P2 the 20th came", desk.least(), 3);
        CHECK.due("P2 add after close", desk.add(1), true);
    }

    private static void closing() {
        LessonSolver desk = new LessonSolver(4);
        clause(desk, 1, 2);
        CHECK.due("P3 a new clause is begun", desk.count(3), 0);
        clause(desk, -1);
        CHECK.due("P3 least", desk.least(), 4);
        clause(desk, -2, -2, 4);
        CHECK.due("P3 a literal twice", desk.least(), 5);
        CHECK.due("P3 literals", desk.count(1), 6);
        clause(desk, 3, -3);
        CHECK.due("P3 a clause that is always true", desk.least(), 5);
        clause(desk);
        CHECK.due("P3 a clause without literals", desk.solve(), false);
        CHECK.due("P3 literals", desk.count(1), 8);
        for (int i = 6; i <= 400; i++) {
            CHECK.due("P3 close, the " + i + "th", desk.close(), i);
        }
    }

    private static void assuming() {
        LessonSolver desk = new LessonSolver(3);
        for (int literal : NO_LITERALS_OF_3) {
            CHECK.due("P4 assume(" + literal + ")", desk.assume(literal), NONE);
        }
        CHECK.due("P4 wrong ones do not come", desk.count(2), 0);
        for (int i = 1; i <= 40; i++) {
            CHECK.due("P4 assume, the " + i + "th", desk.assume(i < 40 ? 2 : -1), i);
        }
        CHECK.due("P4 assume to 40", desk.assume(-2), NONE);
        CHECK.due("P4 number stays", desk.count(2), 40);
        CHECK.due("P4 the 41st did not come", desk.least(), 2);
        CHECK.due("P4 the 40th came", desk.implied(-1), 1);
        CHECK.due("P4 retract", desk.retract(1), 39);
        CHECK.due("P4 the last one goes first", desk.implied(-1), 0);
        CHECK.due("P4 assume again", desk.assume(1), 40);
        CHECK.due("P4 least", desk.least(), 6);
    }

    private static void retracting() {
        LessonSolver desk = new LessonSolver(5);
        CHECK.due("P5 retract(0) of none", desk.retract(0), 0);
        CHECK.due("P5 retract(1) of none", desk.retract(1), NONE);
        for (int v = 1; v <= 5; v++) {
            desk.assume(v);
        }
        CHECK.due("P5 retract(-1)", desk.retract(-1), NONE);
        CHECK.due("P5 retract(6)", desk.retract(6), NONE);
        CHECK.due("P5 retract(least int)", desk.retract(Integer.MIN_VALUE), NONE);
        CHECK.due("P5 retract(greatest int)", desk.retract(Integer.MAX_VALUE), NONE);
        CHECK.due("P5 wrong ones change nothing", desk.least(), 31);
        CHECK.due("P5 retract(0)", desk.retract(0), 5);
        CHECK.due("P5 retract(2)", desk.retract(2), 3);
        CHECK.due("P5 the last went", desk.least(), 28);
        CHECK.due("P5 retract(3)", desk.retract(3), 0);
        CHECK.due("P5 all went", desk.least(), 0);
    }

    private static void solving() {
        LessonSolver desk = new LessonSolver(2);
        clause(desk, 1, 2);
        clause(desk, 1, -2);
        clause(desk, -1, 2);
        CHECK.due("P6 one model", desk.solve(), true);
        CHECK.due("P6 assume", desk.assume(-1), 1);
        CHECK.due("P6 not under the assumption", desk.solve(), false);
        CHECK.due("P6 retract", desk.retract(1), 0);
        CHECK.due("P6 again", desk.solve(), true);
        clause(desk, -1, -2);
        CHECK.due("P6 no model", desk.solve(), false);
        CHECK.due("P6 still no model", desk.solve(), false);

        LessonSolver assumed = new LessonSolver(16);
        assumed.assume(9);
        assumed.assume(-9);
        CHECK.due("P6 assumptions against each other", assumed.solve(), false);
        assumed.retract(1);
        CHECK.due("P6 one of them", assumed.solve(), true);
    }

    private static void leastModel() {
        LessonSolver desk = new LessonSolver(16);
        clause(desk, 1, 16);
        CHECK.due("P7 variable 1 stays 0", desk.least(), 1);
        clause(desk, -16);
        CHECK.due("P7 variable 1 is the highest bit", desk.least(), 1 << 15);
        clause(desk, -1, 8, 9);
        CHECK.due("P7 8 stays 0 before 9", desk.least(), 1 << 15 | 1 << 7);
        CHECK.due("P7 assume", desk.assume(-9), 1);
        CHECK.due("P7 under an assumption", desk.least(), 1 << 15 | 1 << 8);
        CHECK.due("P7 assume", desk.assume(-8), 2);
        CHECK.due("P7 none", desk.least(), NONE);

        LessonSolver full = new LessonSolver(16);
        for (int v = 1; v <= 16; v++) {
            clause(full, v);
        }
        CHECK.due("P7 all are 1", full.least(), 65535);

        LessonSolver one = new LessonSolver(1);
        CHECK.due("P7 of one variable", one.least(), 0);
        clause(one, 1);
        CHECK.due("P7 of one variable", one.least(), 1);
        clause(one, -1);
        CHECK.due("P7 of one variable", one.least(), NONE);
    }

    private static void implying() {
        LessonSolver desk = new LessonSolver(3);
        for (int literal : NO_LITERALS_OF_3) {
            CHECK.due("P8 implied(" + literal + ")", desk.implied(literal), NONE);
        }
        clause(desk, 1, 2);
        clause(desk, 1, -2);
        CHECK.due("P8 by two clauses", desk.implied(1), 1);
        CHECK.due("P8 its opposite", desk.implied(-1), 0);
        CHECK.due("P8 a free one", desk.implied(2), 0);
        CHECK.due("P8 a free one's opposite", desk.implied(-2), 0);
        desk.assume(-3);
        CHECK.due("P8 an assumption", desk.implied(-3), 1);
        CHECK.due("P8 its opposite", desk.implied(3), 0);
        CHECK.due("P8 no assumption comes", desk.count(2), 1);
        desk.assume(-1);
        CHECK.due("P8 without a model", desk.implied(1), NONE);
        CHECK.due("P8 without a model", desk.implied(-1), NONE);
        CHECK.due("P8 no literal, no model", desk.implied(4), NONE);
    }

    private static void blaming() {
        LessonSolver desk = new LessonSolver(6);
        CHECK.due("P9 no assumptions", desk.core(), 0);
        clause(desk, -1, -2);
        clause(desk, -3, -4);
        desk.assume(1);
        desk.assume(3);
        desk.assume(5);
        CHECK.due("P9 with a model", desk.core(), 0);
        desk.assume(4);
        desk.assume(2);
        CHECK.due("P9 the earlier is left out first", desk.core(), 0b01010);
        CHECK.due("P9 no assumption goes", desk.count(2), 5);
        desk.assume(1);
        CHECK.due("P9 the same one later", desk.core(), 0b110000);
        clause(desk, -5);
        CHECK.due("P9 one alone, but the last are kept", desk.core(), 0b110000);
        desk.retract(2);
        CHECK.due("P9 a pair behind one alone", desk.core(), 0b000100);
        clause(desk);
        CHECK.due("P9 the clauses alone are to blame", desk.core(), 0);

        LessonSolver wide = new LessonSolver(2);
        for (int i = 0; i < 39; i++) {
            wide.assume(1);
        }
        wide.assume(-1);
        CHECK.due("P9 bits 38 and 39", wide.core(), 3L << 38);
    }

    private static void counting() {
        LessonSolver desk = new LessonSolver(4);
        int[] others = {-1, 5, 6, 100, Integer.MIN_VALUE, Integer.MAX_VALUE};
        for (int what : others) {
            CHECK.due("P10 count(" + what + ")", desk.count(what), NONE);
        }
        clause(desk, 1, 1, -2);
        clause(desk, 3, -3);
        clause(desk);
        desk.assume(1);
        desk.assume(1);
        desk.assume(-1);
        desk.assume(2);
        desk.add(2);
        desk.add(2);
        CHECK.due("P10 clauses", desk.count(0), 3);
        CHECK.due("P10 literals", desk.count(1), 5);
        CHECK.due("P10 assumptions", desk.count(2), 4);
        CHECK.due("P10 literals of the clause that is being made", desk.count(3), 2);
        CHECK.due("P10 learned ones that do not follow", desk.count(4), 0);
        for (int cages = 1; cages <= 3; cages++) {
            pigeons(cages);
        }
    }

    /** One pigeon more than cages: no model, and units alone do not show it. */
    private static void pigeons(int cages) {
        LessonSolver desk = new LessonSolver(16);
        for (int p = 0; p <= cages; p++) {
            for (int c = 1; c <= cages; c++) {
                desk.add(p * cages + c);
            }
            desk.close();
        }
        for (int c = 1; c <= cages; c++) {
            for (int p = 0; p <= cages; p++) {
                for (int q = 0; q < p; q++) {
                    clause(desk, -(p * cages + c), -(q * cages + c));
                }
            }
        }
        CHECK.due("P10 pigeons", desk.solve(), false);
        CHECK.due("P10 learned from pigeons", desk.count(4), 0);
        desk.assume(1);
        desk.assume(16);
        CHECK.due("P10 pigeons, core", desk.core(), 0);
        CHECK.due("P10 learned from pigeons", desk.count(4), 0);
    }

    private static void wiping() {
        LessonSolver desk = new LessonSolver(3);
        desk.wipe();
        CHECK.due("P11 of nothing", desk.least(), 0);
        clause(desk, 1, 2);
        clause(desk, 1, -2);
        clause(desk, -1, 3);
        clause(desk, -1, -3);
        CHECK.due("P11 before", desk.solve(), false);
        desk.assume(2);
        desk.add(-2);
        desk.wipe();
        for (int what = 0; what <= 4; what++) {
            CHECK.due("P11 count(" + what + ")", desk.count(what), 0);
        }
        CHECK.due("P11 what was learned goes too", desk.solve(), true);
        CHECK.due("P11 least", desk.least(), 0);
        CHECK.due("P11 no assumption", desk.retract(1), NONE);
        clause(desk, 3);
        CHECK.due("P11 the clause that was being made went", desk.least(), 1);
        CHECK.due("P11 assume", desk.assume(-1), 1);
        CHECK.due("P11 the variables stay", desk.assume(4), NONE);
    }
}
