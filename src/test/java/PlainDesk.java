import java.util.ArrayList;
import java.util.List;

/** The document word by word: every question goes through all assignments in their order. */
final class PlainDesk {
    static final int NONE = -1;

    private final int variables;
    private final List<int[]> clauses = new ArrayList<>();
    private final List<Integer> made = new ArrayList<>();
    private final List<Integer> assumptions = new ArrayList<>();

    PlainDesk(int variables) {
        this.variables = variables < 1 ? 1 : variables > 16 ? 16 : variables;
    }

    boolean add(int literal) {
        if (!isLiteral(literal) || made.size() == 20) {
            return false;
        }
        return made.add(literal);
    }

    int close() {
        boolean room = clauses.size() < 600 && count(1) + made.size() <= 4000;
        if (room) {
            clauses.add(made.stream().mapToInt(Integer::intValue).toArray());
        }
        made.clear();
        return room ? clauses.size() : NONE;
    }

    int assume(int literal) {
        if (!isLiteral(literal) || assumptions.size() == 40) {
            return NONE;
        }
        assumptions.add(literal);
        return assumptions.size();
    }

    int retract(int n) {
        if (n < 0 || n > assumptions.size()) {
            return NONE;
        }
        for (int i = 0; i < n; i++) {
            assumptions.remove(assumptions.size() - 1);
        }
        return assumptions.size();
    }

    boolean solve() {
        return least() != NONE;
    }

    int least() {
        return firstWith(assumptions);
    }

    int implied(int literal) {
        if (!isLiteral(literal)) {
            return NONE;
        }
        boolean any = false;
        for (int a = 0; a < 1 << variables; a++) {
            if (isModel(a, assumptions)) {
                any = true;
                if (!isTrue(literal, a)) {
                    return 0;
                }
            }
        }
        return any ? 1 : NONE;
    }

    long core() {
        if (solve()) {
            return 0;
        }
        boolean[] out = new boolean[assumptions.size()];
        for (int k = 0; k < out.length; k++) {
            out[k] = true;
            List<Integer> rest = new ArrayList<>();
            for (int j = 0; j < out.length; j++) {
                if (!out[j]) {
                    rest.add(assumptions.get(j));
                }
            }
            out[k] = firstWith(rest) == NONE;
        }
        long core = 0;
        for (int k = 0; k < out.length; k++) {
            core |= out[k] ? 0L : 1L << k;
        }
        return core;
    }

    int count(int what) {
        switch (what) {
            case 0:
                return clauses.size();
            case 1:
                return clauses.stream().mapToInt(c -> c.length).sum();
            case 2:
                return assumptions.size();
            case 3:
                return made.size();
            case 4:
                return 0;
            default:
                return NONE;
        }
    }

    void wipe() {
        clauses.clear();
        made.clear();
        assumptions.clear();
    }

    private boolean isLiteral(int literal) {
        return literal != 0 && literal >= -variables && literal <= variables;
    }

    private boolean isTrue(int literal, int assignment) {
        int v = literal < 0 ? -literal : literal;
        boolean one = (assignment >> (variables - v) & 1) == 1;
        return one == literal > 0;
    }

    private boolean isModel(int assignment, List<Integer> assumed) {
        for (int literal : assumed) {
            if (!isTrue(literal, assignment)) {
                return false;
            }
        }
        for (int[] clause : clauses) {
            boolean held = false;
            for (int literal : clause) {
                held |= isTrue(literal, assignment);
            }
            if (!held) {
                return false;
            }
        }
        return true;
    }

    private int firstWith(List<Integer> assumed) {
        for (int a = 0; a < 1 << variables; a++) {
            if (isModel(a, assumed)) {
                return a;
            }
        }
        return NONE;
    }
}
