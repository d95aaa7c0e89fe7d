import java.util.ArrayList;
import java.util.HashSet;
import java.util.List;

/** The document read word by word: every answer is found by trying all rows, least first. */
final class Model {
    private static final int NONE = -1;

    private int variables = 0;
    private List<List<Integer>> clauses = new ArrayList<>();
    private List<Integer> written = new ArrayList<>();
    private List<Integer> assumed = new ArrayList<>();
    private int[] leastThen = null;
    private int blamed = NONE;

    int variables() {
        return variables;
    }

    int variable() {
        if (variables == 16) {
            throw new IllegalStateException();
        }
        return variables++;
    }

    int literal(int l) {
        needLiteral(l);
        int all = written.size();
        for (List<Integer> clause : clauses) {
            all += clause.size();
        }
        if (written.size() == 40 || all == 4000) {
            throw new IllegalStateException();
        }
        written.add(l);
        return written.size();
    }

    int close() {
        if (clauses.size() == 500) {
            throw new IllegalStateException();
        }
        clauses.add(written);
        written = new ArrayList<>();
        return clauses.size();
    }

    int assume(int l) {
        needLiteral(l);
        if (assumed.size() == 64) {
            throw new IllegalStateException();
        }
        assumed.add(l);
        return assumed.size();
    }

    int solve() {
        leastThen = null;
        int most = -1;
        for (int[] row : solutions()) {
            int k = 0;
            while (k < assumed.size() && isTrue(assumed.get(k), row)) {
                k++;
            }
            most = Math.max(most, k);
            if (k == assumed.size() && leastThen == null) {
                leastThen = row;
            }
        }
        blamed = leastThen == null ? most + 1 : NONE;
        assumed = new ArrayList<>();
        return leastThen == null ? 0 : 1;
    }

    int blame() {
        return blamed;
    }

    int least(int v) {
        if (v < 0 || v >= variables) {
            throw new IndexOutOfBoundsException();
        }
        return leastThen == null || v >= leastThen.length ? NONE : leastThen[v];
    }

    int must(int l) {
        needLiteral(l);
        boolean some = false;
        boolean other = false;
        for (int[] row : solutions()) {
            if (isTrue(l, row)) {
                some = true;
            } else {
                other = true;
            }
        }
        return some && other ? 2 : some ? 1 : other ? 0 : NONE;
    }

    int ways(int from, int n) {
        if (n < 0 || n > 8) {
            throw new IllegalArgumentException();
        }
        if (from < 0 || (long) from + n > variables) {
            throw new IndexOutOfBoundsException();
        }
        HashSet<String> rows = new HashSet<>();
        for (int[] row : solutions()) {
            StringBuilder values = new StringBuilder();
            for (int v = from; v < from + n; v++) {
                values.append(row[v]);
            }
            rows.add(values.toString());
        }
        return rows.size();
    }

    int shown() {
        return leastThen != null ? 1 : 0;
    }

    int proved() {
        return blamed != NONE ? 1 : 0;
    }

    void clear() {
        variables = 0;
        clauses = new ArrayList<>();
        written = new ArrayList<>();
        assumed = new ArrayList<>();
        leastThen = null;
        blamed = NONE;
    }

    private void needLiteral(int l) {
        if (l < 0 || l / 2 >= variables) {
            throw new IllegalArgumentException();
        }
    }

    private static boolean isTrue(int l, int[] row) {
        return row[l / 2] == (l % 2 == 0 ? 1 : 0);
    }

    private boolean isSolution(int[] row) {
        for (List<Integer> clause : clauses) {
            boolean one = false;
            for (int l : clause) {
                one = one || isTrue(l, row);
            }
            if (!one) {
                return false;
            }
        }
        return true;
    }

    private List<int[]> solutions() {
        List<int[]> all = new ArrayList<>();
        for (int number = 0; number < 1 << variables; number++) {
            int[] row = new int[variables];
            for (int v = 0; v < variables; v++) {
                row[v] = number >> (variables - 1 - v) & 1;
            }
            if (isSolution(row)) {
                all.add(row);
            }
        }
        return all;
    }
}
