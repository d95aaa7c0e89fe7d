/**
 * Decides whether clauses can all be true at once, with more and more clauses, under any
 * assumptions. Sixteen variables have only 65536 rows of values, so what the clauses teach is kept
 * whole, as the set of rows that are still solutions: no answer needs a search.
 */
public final class LearningSolver {
    public static final int NONE = -1;

    private static final int MOST_VARIABLES = 16;
    private static final int MOST_IN_CLAUSE = 40;
    private static final int MOST_LITERALS = 4000;
    private static final int MOST_CLAUSES = 500;
    private static final int MOST_ASSUMPTIONS = 64;
    private static final int MOST_COUNTED = 8;

    private final Rows solutions;
    private final Rows scratch;
    private final int[] written;
    private final int[] assumed;
    private int variables;
    private int literals;
    private int clauses;
    private int writtenCount;
    private int assumedCount;

    // What the latest solve() found is worked out there, because later clauses must not change it.
    private boolean found;
    private int blamed;
    private int leastValues;
    private int variablesThen;

    public LearningSolver() {
        solutions = new Rows();
        scratch = new Rows();
        written = new int[MOST_IN_CLAUSE];
        assumed = new int[MOST_ASSUMPTIONS];
        startAnew();
    }

    public int variable() throws IllegalStateException {
        if (variables >= MOST_VARIABLES) {
            throw new IllegalStateException("there are 16 variables");
        }
        int v = variables;
        solutions.addVariable(v);
        variables++;
        return v;
    }

    public int literal(int l) throws IllegalArgumentException, IllegalStateException {
        refuseUnknownLiteral(l);
        if (writtenCount >= written.length) {
            throw new IllegalStateException("the clause has 40 literals");
        }
        if (literals >= MOST_LITERALS) {
            throw new IllegalStateException("all clauses have 4000 literals");
        }
        written[writtenCount] = l;
        writtenCount++;
        literals++;
        return writtenCount;
    }

    public int close() throws IllegalStateException {
        if (clauses >= MOST_CLAUSES) {
            throw new IllegalStateException("there are 500 clauses");
        }
        solutions.keepClause(written, writtenCount);
        writtenCount = 0;
        clauses++;
        return clauses;
    }

    public int assume(int l) throws IllegalArgumentException, IllegalStateException {
        refuseUnknownLiteral(l);
        if (assumedCount >= assumed.length) {
            throw new IllegalStateException("there are 64 assumptions");
        }
        assumed[assumedCount] = l;
        assumedCount++;
        return assumedCount;
    }

    public boolean solve() {
        scratch.copyFrom(solutions);
        blamed = narrowToAssumptions();
        found = blamed == NONE;
        leastValues = found ? scratch.leastRow() : 0;
        variablesThen = variables;
        assumedCount = 0;
        return found;
    }

    public int blame() {
        return blamed;
    }

    public int least(int v) throws IndexOutOfBoundsException {
        if (v < 0 || v >= variables) {
            throw new IndexOutOfBoundsException("there is no such variable");
        }
        if (!found || v >= variablesThen) {
            return NONE;
        }
        return leastValues >> v & 1;
    }

    public int must(int l) throws IllegalArgumentException {
        refuseUnknownLiteral(l);
        boolean canBeTrue = solutions.anyWith(l);
        boolean canBeFalse = solutions.anyWith(l ^ 1);
        if (canBeTrue) {
            return canBeFalse ? 2 : 1;
        }
        return canBeFalse ? 0 : NONE;
    }

    public int ways(int from, int n) throws IllegalArgumentException, IndexOutOfBoundsException {
        if (n < 0 || n > MOST_COUNTED) {
            throw new IllegalArgumentException("n is not 0 .. 8");
        }
        if (from < 0 || from > variables - n) {
            throw new IndexOutOfBoundsException("there are not so many variables from there on");
        }
        scratch.copyFrom(solutions);
        // Downwards, because dropping a variable moves only those above it.
        for (int v = MOST_VARIABLES - 1; v >= 0; v--) {
            if (v < from || v >= from + n) {
                scratch.dropVariable(v);
            }
        }
        return scratch.count();
    }

    public boolean shown() {
        return found;
    }

    public boolean proved() {
        return blamed != NONE;
    }

    public void clear() {
        startAnew();
    }

    private void startAnew() {
        solutions.holdAll();
        variables = 0;
        literals = 0;
        clauses = 0;
        writtenCount = 0;
        assumedCount = 0;
        found = false;
        blamed = NONE;
        leastValues = 0;
        variablesThen = 0;
    }

    private void refuseUnknownLiteral(int l) throws IllegalArgumentException {
        if (l < 0 || l >= 2 * variables) {
            throw new IllegalArgumentException("there is no such literal");
        }
    }

    /** How many assumptions it takes until no row is left; NONE if a row fits them all. */
    private int narrowToAssumptions() {
        if (!scratch.anyIn(0, 1, -1L)) {
            return 0;
        }
        for (int i = 0; i < assumedCount && i < assumed.length; i++) {
            if (!scratch.keepWith(assumed[i])) {
                return i + 1;
            }
        }
        return NONE;
    }

    /**
     * A set of rows of values. A row is a number with variable v at bit v, and the set has one bit
     * for each row: bit r % 64 of word r / 64. So the variables below 6 are told apart inside each
     * word, and each later one doubles the words. Variables below 6 that are not yet there are held
     * with both values: a clause can't tell them apart, and anyone who counts drops them first.
     */
    private static final class Rows {
        private static final int INNER = 6;
        private static final int MOST_WORDS = 1 << (MOST_VARIABLES - INNER);
        /** For each variable below 6: the bits of a word whose rows have it 1. */
        private static final long[] INNER_ONES = {
            0xAAAAAAAAAAAAAAAAL, 0xCCCCCCCCCCCCCCCCL, 0xF0F0F0F0F0F0F0F0L,
            0xFF00FF00FF00FF00L, 0xFFFF0000FFFF0000L, 0xFFFFFFFF00000000L
        };

        private final long[] words;
        private int used;

        Rows() {
            words = new long[MOST_WORDS];
            used = 0;
        }

        void holdAll() {
            words[0] = -1L;
            used = 1;
        }

        void copyFrom(Rows other) {
            if (other == null) {
                return;
            }
            int end = Math.min(other.end(), words.length);
            for (int w = 0; w < end; w++) {
                words[w] = other.words[w];
            }
            used = end;
        }

        void addVariable(int v) {
            if (v < INNER || used > words.length / 2) {
                return;
            }
            for (int w = 0; w < used; w++) {
                words[used + w] = words[w];
            }
            used = 2 * used;
        }

        /** Makes one row of each two that differ in this variable alone; those above move down. */
        void dropVariable(int v) {
            if (v < 0 || v >= MOST_VARIABLES) {
                return;
            }
            if (v < INNER_ONES.length) {
                dropInner(1 << v, ~INNER_ONES[v]);
            } else {
                dropOuter(1 << (v - INNER));
            }
        }

        private void dropInner(int distance, long zeros) {
            int end = end();
            for (int w = 0; w < end; w++) {
                words[w] = (words[w] | words[w] >>> distance) & zeros;
            }
        }

        private void dropOuter(int distance) {
            int end = end();
            if (distance >= end) {
                return;
            }
            int kept = 0;
            for (int w = 0; w < end - distance; w++) {
                if ((w & distance) == 0) {
                    words[kept] = words[w] | words[w + distance];
                    kept++;
                }
            }
            used = kept;
        }

        boolean anyWith(int l) {
            long inner = innerRows(l);
            int ones = outerOnes(l);
            int zeros = outerZeros(l);
            int end = end();
            for (int w = 0; w < end; w++) {
                boolean allRows = (w & ones) != 0 || (~w & zeros) != 0;
                if ((allRows ? words[w] : words[w] & inner) != 0L) {
                    return true;
                }
            }
            return false;
        }

        /** Whether any of these bits is set in one of the words first, first + distance, .. */
        boolean anyIn(int first, int distance, long bits) {
            if (first < 0 || distance < 1 || distance > MOST_WORDS) {
                return false;
            }
            int end = end();
            for (int w = first; w < end; w += distance) {
                if ((words[w] & bits) != 0L) {
                    return true;
                }
            }
            return false;
        }

        /**
         * The least row of a set that has one. The values of the inner variables are settled first,
         * for all words at once, because those variables come first; then word numbers are.
         */
        int leastRow() {
            long bits = 0L;
            int end = end();
            for (int w = 0; w < end; w++) {
                bits |= words[w];
            }
            int inner = 0;
            for (int v = 0; v < INNER_ONES.length; v++) {
                long zeros = bits & ~INNER_ONES[v];
                if (zeros != 0L) {
                    bits = zeros;
                } else {
                    inner |= 1 << v;
                }
            }
            int word = 0;
            for (int one = 1; one < end && one < MOST_WORDS; one *= 2) {
                if (!anyIn(word, 2 * one, bits)) {
                    word |= one;
                }
            }
            return word << INNER | inner;
        }

        /** Takes out the rows that have the literal false; whether a row is left. */
        boolean keepWith(int l) {
            return keepRows(innerRows(l), outerOnes(l), outerZeros(l));
        }

        void keepClause(int[] clause, int length) {
            if (clause == null) {
                return;
            }
            long inner = 0L;
            int ones = 0;
            int zeros = 0;
            for (int i = 0; i < length && i < clause.length; i++) {
                inner |= innerRows(clause[i]);
                ones |= outerOnes(clause[i]);
                zeros |= outerZeros(clause[i]);
            }
            keepRows(inner, ones, zeros);
        }

        /**
         * Keeps the inner rows in each word, but all rows in a word whose number has a 1 where ones
         * has it, or a 0 where zeros has a 1; whether a row is left.
         */
        private boolean keepRows(long inner, int ones, int zeros) {
            long left = 0L;
            int end = end();
            for (int w = 0; w < end; w++) {
                if ((w & ones) == 0 && (~w & zeros) == 0) {
                    words[w] &= inner;
                }
                left |= words[w];
            }
            return left != 0L;
        }

        int count() {
            int rows = 0;
            int end = end();
            for (int w = 0; w < end; w++) {
                rows += Long.bitCount(words[w]);
            }
            return rows;
        }

        private int end() {
            return Math.min(used, words.length);
        }

        /** The bits of each word whose rows have the literal true; none if word numbers tell it. */
        private static long innerRows(int l) {
            int v = l >> 1;
            if (v < 0 || v >= INNER_ONES.length) {
                return 0L;
            }
            return (l & 1) == 0 ? INNER_ONES[v] : ~INNER_ONES[v];
        }

        /** The bit that is 1 in the numbers of the words whose rows have the literal true, if any. */
        private static int outerOnes(int l) {
            return (l & 1) == 0 ? outerBit(l >> 1) : 0;
        }

        /** The bit that is 0 in the numbers of the words whose rows have the literal true, if any. */
        private static int outerZeros(int l) {
            return (l & 1) == 0 ? 0 : outerBit(l >> 1);
        }

        private static int outerBit(int v) {
            return v >= INNER && v < MOST_VARIABLES ? 1 << (v - INNER) : 0;
        }
    }
}
