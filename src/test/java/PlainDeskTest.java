/** Runs of calls, each answer held against that of a desk that goes through all assignments. */
public final class PlainDeskTest {
    private static final int CALLS = 512;
    private static final Check CHECK = new Check();

    public static void main(String[] args) {
        for (int run = 0; run < 1500; run++) {
            mixedRun(run, new Numbers(run), run % 9 - 1);
        }
        for (int run = 0; run < 40; run++) {
            mixedRun(run, new Numbers(7000 + run), 9 + run % 10);
        }
        for (int run = 0; run < 400; run++) {
            denseRun(run, new Numbers(20000 + run), 5 + run % 5);
        }
        for (int run = 0; run < 60; run++) {
            denseRun(run, new Numbers(30000 + run), 10 + run % 7);
        }
        for (int run = 0; run < 60; run++) {
            parityRun(run, new Numbers(40000 + run), run % 7);
        }
        CHECK.end();
    }

    /** All calls in any order, wrong arguments among them. */
    private static void mixedRun(int run, Numbers numbers, int variables) {
        LessonSolver desk = new LessonSolver(variables);
        PlainDesk plain = new PlainDesk(variables);
        int width = 1 + numbers.below(4);
        for (int call = 0; call < CALLS && CHECK.allRight(); call++) {
            String at = "mixed run " + run + " of " + variables + ", call " + call + ": ";
            int kind = numbers.below(100);
            int literal = numbers.literal(Math.max(1, variables) + (numbers.below(12) == 0 ? 2 : 0));
            if (numbers.below(60) == 0) {
                literal = 0;
            }
            if (kind < 50) {
                if (numbers.below(width + 1) == 0) {
                    closeBoth(at, desk, plain, numbers);
                } else {
                    CHECK.due(at + "add(" + literal + ")", desk.add(literal), plain.add(literal));
                }
            } else if (kind < 65) {
                CHECK.due(at + "assume(" + literal + ")", desk.assume(literal), plain.assume(literal));
            } else if (kind < 73) {
                int n = numbers.below(6) - 1;
                CHECK.due(at + "retract(" + n + ")", desk.retract(n), plain.retract(n));
            } else if (kind < 99) {
                ask(at, desk, plain, literal, numbers.below(5));
            } else if (numbers.below(2) == 0) {
                desk.wipe();
                plain.wipe();
            }
            if (call + 8 < CALLS && numbers.below(10) == 0) {
                askCounts(at, desk, plain);
                call += 7;
            }
        }
    }

    /** An empty clause ends what a desk can tell, so most of them are left unclosed. */
    private static void closeBoth(String at, LessonSolver desk, PlainDesk plain, Numbers numbers) {
        if (plain.count(3) > 0 || numbers.below(40) == 0) {
            CHECK.due(at + "close()", desk.close(), plain.close());
        }
    }

    /** Clauses of three literals until there is no model, so that searches meet many conflicts. */
    private static void denseRun(int run, Numbers numbers, int variables) {
        LessonSolver desk = new LessonSolver(variables);
        PlainDesk plain = new PlainDesk(variables);
        int assumed = numbers.below(5);
        for (int call = 0; call < CALLS - 26 && CHECK.allRight(); call += 4) {
            String at = "dense run " + run + " of " + variables + ", call " + call + ": ";
            for (int i = 0; i < 3; i++) {
                int literal = numbers.literal(variables);
                CHECK.due(at + "add", desk.add(literal), plain.add(literal));
            }
            CHECK.due(at + "close", desk.close(), plain.close());
            if (call / 4 % 8 == 7) {
                int back = plain.count(2);
                CHECK.due(at + "retract", desk.retract(back), plain.retract(back));
                for (int i = 0; i < assumed; i++) {
                    int literal = numbers.literal(variables);
                    CHECK.due(at + "assume", desk.assume(literal), plain.assume(literal));
                }
                ask(at, desk, plain, numbers.literal(variables), numbers.below(5));
                call += 2 + assumed;
            }
        }
        for (int kind = 0; kind < 5; kind++) {
            ask("end of dense run " + run, desk, plain, numbers.literal(variables), kind);
        }
        askCounts("end of dense run " + run, desk, plain);
    }

    /** Sums of four variables that are even or odd: one search learns more than there is room for. */
    private static void parityRun(int run, Numbers numbers, int assumed) {
        LessonSolver desk = new LessonSolver(16);
        PlainDesk plain = new PlainDesk(16);
        String at = "parity run " + run + ": ";
        Sums.closeBoth(at, CHECK, desk, plain, numbers);
        for (int i = 0; i < assumed; i++) {
            int literal = numbers.literal(16);
            CHECK.due(at + "assume", desk.assume(literal), plain.assume(literal));
        }
        for (int kind = 0; kind < 5; kind++) {
            ask(at, desk, plain, numbers.literal(16), kind);
        }
        askCounts(at, desk, plain);
    }

    private static void ask(String at, LessonSolver desk, PlainDesk plain, int literal, int kind) {
        switch (kind) {
            case 0:
                CHECK.due(at + "solve()", desk.solve(), plain.solve());
                break;
            case 1:
                CHECK.due(at + "least()", desk.least(), plain.least());
                break;
            case 2:
                CHECK.due(at + "core()", desk.core(), plain.core());
                break;
            default:
                CHECK.due(at + "implied(" + literal + ")", desk.implied(literal), plain.implied(literal));
        }
    }

    private static void askCounts(String at, LessonSolver desk, PlainDesk plain) {
        for (int what = -1; what <= 5; what++) {
            CHECK.due(at + "count(" + what + ")", desk.count(what), plain.count(what));
        }
    }
}
