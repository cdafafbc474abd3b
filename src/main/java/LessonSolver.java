/**
 * A desk for clauses over at most 16 variables. A search decides variables in their order, 0 before
 * 1, and learns from each conflict a clause, the lesson, that spares later searches the same way.
 *
 * <p>A set of variables is an int: of N variables, variable v is bit N - v, so that the assignments
 * in their order are the numbers in theirs.
 */
public final class LessonSolver {
    public static final int NONE = -1;

    private static final int MOST_VARIABLES = 16;
    private static final int MOST_CLAUSES = 600;
    private static final int MOST_LITERALS = 4000;
    private static final int MOST_IN_ONE_CLAUSE = 20;
    private static final int MOST_ASSUMPTIONS = 40;
    private static final int MOST_LESSONS = 64;

    private static final int NO_LITERAL = 0;
    private static final int NO_CONFLICT = -1;
    private static final int NO_REASON = 0;
    private static final long ALL_ASSUMPTIONS = -1L;

    private final int variables;
    private final ClauseRow clauses;
    private final Search search;
    private final int[] assumptions;
    private int assumptionCount;
    private int clauseCount;
    private int literalCount;
    private int madePlus;
    private int madeMinus;
    private int madeLength;

    public LessonSolver(int variables) {
        this.variables = Math.max(1, Math.min(MOST_VARIABLES, variables));
        this.clauses = new ClauseRow();
        this.search = new Search(this.variables, this.clauses);
        this.assumptions = new int[MOST_ASSUMPTIONS];
    }

    public boolean add(int literal) {
        if (!isLiteral(literal) || madeLength >= MOST_IN_ONE_CLAUSE) {
            return false;
        }
        if (literal > 0) {
            madePlus |= bitOf(literal);
        } else {
            madeMinus |= bitOf(literal);
        }
        madeLength++;
        return true;
    }

    public int close() {
        boolean room = clauseCount < MOST_CLAUSES && literalCount + madeLength <= MOST_LITERALS;
        if (room) {
            clauseCount++;
            literalCount += madeLength;
            takeMadeClause();
        }
        forgetMadeClause();
        return room ? clauseCount : NONE;
    }

    public int assume(int literal) {
        if (!isLiteral(literal) || assumptionCount >= MOST_ASSUMPTIONS) {
            return NONE;
        }
        assumptions[assumptionCount] = literal;
        assumptionCount++;
        return assumptionCount;
    }

    public int retract(int n) {
        if (n < 0 || n > assumptionCount) {
            return NONE;
        }
        assumptionCount -= n;
        return assumptionCount;
    }

    public boolean solve() {
        return firstModelUnder(ALL_ASSUMPTIONS, NO_LITERAL) != NONE;
    }

    public int least() {
        return firstModelUnder(ALL_ASSUMPTIONS, NO_LITERAL);
    }

    public int implied(int literal) {
        if (!isLiteral(literal) || firstModelUnder(ALL_ASSUMPTIONS, NO_LITERAL) == NONE) {
            return NONE;
        }
        return firstModelUnder(ALL_ASSUMPTIONS, -literal) == NONE ? 1 : 0;
    }

    public long core() {
        if (firstModelUnder(ALL_ASSUMPTIONS, NO_LITERAL) != NONE) {
            return 0L;
        }
        long kept = (1L << assumptionCount) - 1L;
        for (int k = 0; k < assumptionCount; k++) {
            long without = kept & ~(1L << k);
            if (firstModelUnder(without, NO_LITERAL) == NONE) {
                kept = without;
            }
        }
        return kept;
    }

    public int count(int what) {
        switch (what) {
            case 0:
                return clauseCount;
            case 1:
                return literalCount;
            case 2:
                return assumptionCount;
            case 3:
                return madeLength;
            case 4:
                return search.lapses;
            default:
                return NONE;
        }
    }

    public void wipe() {
        clauses.clear();
        clauseCount = 0;
        literalCount = 0;
        assumptionCount = 0;
        forgetMadeClause();
    }

    private boolean isLiteral(int literal) {
        return literal != NO_LITERAL && literal >= -variables && literal <= variables;
    }

    private int bitOf(int literal) {
        return 1 << (variables - Math.abs(literal));
    }

    private void takeMadeClause() {
        // A clause with v and -v is always true; as a set of bits it would look like a unit.
        if ((madePlus & madeMinus) == 0) {
            clauses.give(madePlus, madeMinus);
        }
    }

    private void forgetMadeClause() {
        madePlus = 0;
        madeMinus = 0;
        madeLength = 0;
    }

    /** The least model under the assumptions whose bits are in chosen, and one literal more. */
    private int firstModelUnder(long chosen, int extraLiteral) {
        int ones = extraLiteral > 0 ? bitOf(extraLiteral) : 0;
        int zeros = extraLiteral < 0 ? bitOf(extraLiteral) : 0;
        for (int k = 0; k < assumptionCount; k++) {
            if ((chosen >>> k & 1L) == 0L) {
                continue;
            }
            if (assumptions[k] > 0) {
                ones |= bitOf(assumptions[k]);
            } else {
                zeros |= bitOf(assumptions[k]);
            }
        }
        return search.firstModel(ones, zeros);
    }

    /** Clauses as pairs of variable sets, the given ones in front and the lessons behind them. */
    private static final class ClauseRow {
        private final int[] plus;
        private final int[] minus;
        private int given;
        private int size;

        ClauseRow() {
            this.plus = new int[MOST_CLAUSES + MOST_LESSONS];
            this.minus = new int[MOST_CLAUSES + MOST_LESSONS];
        }

        void clear() {
            given = 0;
            size = 0;
        }

        void give(int plusBits, int minusBits) {
            if (given >= MOST_CLAUSES || size >= plus.length) {
                return;
            }
            // The first lesson makes way to the end: the order among lessons does not matter.
            plus[size] = plus[given];
            minus[size] = minus[given];
            plus[given] = plusBits;
            minus[given] = minusBits;
            given++;
            size++;
        }

        boolean hasRoomForLesson() {
            return size - given < MOST_LESSONS && size < plus.length;
        }

        void keepLesson(int plusBits, int minusBits) {
            if (hasRoomForLesson()) {
                plus[size] = plusBits;
                minus[size] = minusBits;
                size++;
            }
        }

        void forgetLessonsIfMany() {
            if (size - given > MOST_LESSONS / 2) {
                size = given;
            }
        }

        /** Whether a clause is here that is part of this one, so that this one tells nothing new. */
        boolean saysAlready(int plusBits, int minusBits) {
            for (int c = 0; c < size; c++) {
                if ((plus[c] & ~plusBits) == 0 && (minus[c] & ~minusBits) == 0) {
                    return true;
                }
            }
            return false;
        }
    }

    /** The variables that have a value, in the order in which they got it, and why they did. */
    private static final class Trail {
        private final int[] bits;
        private final int[] reasons;
        private int length;
        private int ones;
        private int zeros;

        Trail() {
            this.bits = new int[MOST_VARIABLES];
            this.reasons = new int[MOST_VARIABLES];
        }

        void start(int wantedOnes, int wantedZeros) {
            length = 0;
            ones = 0;
            zeros = 0;
            for (int place = 0; place < MOST_VARIABLES; place++) {
                int bit = 1 << place;
                if (((wantedOnes | wantedZeros) & bit) != 0) {
                    assign(bit, (wantedOnes & bit) != 0, NO_REASON);
                }
            }
        }

        /** The reason is the set of variables of the clause that forces the value. */
        void assign(int bit, boolean value, int reason) {
            if (length >= bits.length) {
                return;
            }
            bits[length] = bit;
            reasons[length] = reason;
            length++;
            if (value) {
                ones |= bit;
            } else {
                zeros |= bit;
            }
        }

        void goBackTo(int mark) {
            for (int i = Math.max(0, mark); i < length; i++) {
                ones &= ~bits[i];
                zeros &= ~bits[i];
            }
            length = Math.max(0, Math.min(mark, length));
        }

        /** The bit of the first variable without a value; 0 if all have one. */
        int firstFree(int variables) {
            for (int place = variables - 1; place >= 0; place--) {
                int bit = 1 << place;
                if (((ones | zeros) & bit) == 0) {
                    return bit;
                }
            }
            return 0;
        }

        /** Follows the units to their end; the variables of a clause that is false, if one is. */
        int propagate(ClauseRow row) {
            // Each pass but the last gives a variable its value.
            for (int pass = 0; pass <= MOST_VARIABLES; pass++) {
                int before = length;
                for (int c = 0; c < row.size; c++) {
                    if ((row.plus[c] & ones | row.minus[c] & zeros) != 0) {
                        continue;
                    }
                    int members = row.plus[c] | row.minus[c];
                    int free = members & ~(ones | zeros);
                    if (free == 0) {
                        return members;
                    }
                    if ((free & (free - 1)) == 0) {
                        assign(free, (row.plus[c] & free) != 0, members);
                    }
                }
                if (length == before) {
                    break;
                }
            }
            return NO_CONFLICT;
        }

        /** The variables without a reason from which the units lead to the conflict. */
        int rootsOf(int conflict) {
            int involved = conflict;
            int roots = 0;
            for (int i = length - 1; i >= 0; i--) {
                if ((involved & bits[i]) == 0) {
                    continue;
                }
                if (reasons[i] == NO_REASON) {
                    roots |= bits[i];
                } else {
                    involved |= reasons[i];
                }
            }
            return roots;
        }
    }

    /** Finds the least model, and learns from conflicts. */
    private static final class Search {
        private final int variables;
        private final ClauseRow row;
        private final Trail trail;
        private final Trail proof;
        private int lapses;

        Search(int variables, ClauseRow row) {
            this.variables = variables;
            this.row = row;
            this.trail = new Trail();
            this.proof = new Trail();
        }

        int firstModel(int ones, int zeros) {
            if ((ones & zeros) != 0) {
                return NONE;
            }
            row.forgetLessonsIfMany();
            trail.start(ones, zeros);
            return descend(0);
        }

        /** The least model with the trail's values. Only the caller takes back what it adds. */
        private int descend(int depth) {
            int refuted = 0;
            // Each round but the last refutes the value 0 of another variable.
            for (int round = 0; round <= variables; round++) {
                int conflict = trail.propagate(row);
                if (conflict != NO_CONFLICT) {
                    learn(conflict);
                    return NONE;
                }
                int next = trail.firstFree(variables);
                if (next == 0) {
                    return trail.ones;
                }
                if (depth >= variables) {
                    return NONE;
                }
                int mark = trail.length;
                trail.assign(next, next == refuted, NO_REASON);
                int found = descend(depth + 1);
                // A variable with both values refuted leaves nothing to try.
                if (found != NONE || next == refuted) {
                    return found;
                }
                trail.goBackTo(mark);
                refuted = next;
            }
            return NONE;
        }

        /** The lesson: the values from which the conflict came can't all stand together. */
        private void learn(int conflict) {
            int roots = trail.rootsOf(conflict);
            int plus = roots & trail.zeros;
            int minus = roots & trail.ones;
            if (!row.hasRoomForLesson() || row.saysAlready(plus, minus)) {
                return;
            }
            // A lesson is used only if the units show it anew from the clauses before it.
            proof.start(minus, plus);
            if (proof.propagate(row) == NO_CONFLICT) {
                lapses++;
            } else {
                row.keepLesson(plus, minus);
            }
        }
    }
}
