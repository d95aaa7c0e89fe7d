/** Each promise of the document: ordinary inputs, the edges that it names, wrong inputs. */
public final class PromisesTest {
    private static final int NONE = LearningSolver.NONE;

    public static void main(String[] args) {
        newObject();
        variable();
        literal();
        literalsOfAllClauses();
        close();
        assume();
        solve();
        solveLooksAtClosedClausesAlone();
        blame();
        blameIsOfThen();
        least();
        leastIsOfThen();
        must();
        ways();
        waysWithSixteenVariables();
        shownAndProved();
        clear();
        firstNamedIsThrown();
        throwingCallsChangeNothing();
        Check.end();
    }

    private static LearningSolver with(int variables) {
        LearningSolver x = new LearningSolver();
        for (int v = 0; v < variables; v++) {
            x.variable();
        }
        return x;
    }

    private static void clause(LearningSolver x, int... literals) {
        for (int l : literals) {
            x.literal(l);
        }
        x.close();
    }

    private static boolean solveWith(LearningSolver x, int... literals) {
        for (int l : literals) {
            x.assume(l);
        }
        return x.solve();
    }

    private static String leastRow(LearningSolver x, int variables) {
        StringBuilder row = new StringBuilder();
        for (int v = 0; v < variables; v++) {
            int value = x.least(v);
            row.append(value == NONE ? "-" : String.valueOf(value));
        }
        return row.toString();
    }

    private static void isNew(String when, LearningSolver x) {
        Check.due(when + " blame", NONE, () -> x.blame());
        Check.due(when + " shown", false, x.shown());
        Check.due(when + " proved", false, x.proved());
        Check.due(when + " least(0)", Check.INDEX, () -> x.least(0));
        Check.due(when + " must(0)", Check.ARGUMENT, () -> x.must(0));
        Check.due(when + " literal(0)", Check.ARGUMENT, () -> x.literal(0));
        Check.due(when + " assume(0)", Check.ARGUMENT, () -> x.assume(0));
        Check.due(when + " ways(0, 0)", 1, () -> x.ways(0, 0));
        Check.due(when + " ways(0, 1)", Check.INDEX, () -> x.ways(0, 1));
        Check.due(when + " solve", true, x.solve());
        Check.due(when + " variable", 0, () -> x.variable());
        Check.due(when + " literal", 1, () -> x.literal(1));
        Check.due(when + " assume", 1, () -> x.assume(1));
        Check.due(when + " close", 1, () -> x.close());
    }

    private static void newObject() {
        isNew("new", new LearningSolver());
        LearningSolver empty = new LearningSolver();
        Check.due("a new clause has no literals", 1, () -> empty.close());
        Check.due("so it is never true", false, empty.solve());
    }

    private static void variable() {
        LearningSolver x = new LearningSolver();
        for (int v = 0; v < 16; v++) {
            int want = v;
            Check.due("variable", want, () -> x.variable());
            Check.due("its value is free", 2, () -> x.must(2 * want));
        }
        Check.due("a 17th variable", Check.STATE, () -> x.variable());
        Check.due("and again", Check.STATE, () -> x.variable());
        Check.due("literals end at 31", 0, () -> x.must(31) - 2);
        Check.due("there is no literal 32", Check.ARGUMENT, () -> x.must(32));
        for (int v = 1; v < 16; v++) {
            LearningSolver late = with(v);
            int before = 2 * (v - 1);
            clause(late, before);
            late.variable();
            Check.due("a late variable is free", 2, () -> late.must(before + 2));
            Check.due("the one before it is not", 1, () -> late.must(before));
        }
    }

    private static void literal() {
        LearningSolver x = with(3);
        for (int i = 1; i <= 40; i++) {
            int want = i;
            Check.due("literal", want, () -> x.literal(4));
        }
        Check.due("a 41st literal", Check.STATE, () -> x.literal(0));
        Check.due("close after 40", 1, () -> x.close());
        Check.due("the next clause is empty", 1, () -> x.literal(0));
        Check.due("40 times one literal is that literal", 1, () -> x.must(4));
        for (int l : new int[] {-1, 6, 7, 32, Integer.MAX_VALUE, Integer.MIN_VALUE}) {
            Check.due("literal(" + l + ")", Check.ARGUMENT, () -> x.literal(l));
        }
        Check.due("the last literal there is", 2, () -> x.literal(5));
        LearningSolver both = with(1);
        clause(both, 0, 1);
        Check.due("a clause with both literals is true", 2, () -> both.ways(0, 1));
    }

    /** More than 512 calls, because this edge can't be met with fewer. */
    private static void literalsOfAllClauses() {
        LearningSolver x = with(2);
        for (int c = 0; c < 102; c++) {
            for (int i = 0; i < 39; i++) {
                x.literal(0);
            }
            x.close();
        }
        for (int i = 1; i <= 22; i++) {
            int want = i;
            Check.due("up to 4000", want, () -> x.literal(2));
        }
        Check.due("the 4001st literal", Check.STATE, () -> x.literal(2));
        Check.due("one that is not there", Check.ARGUMENT, () -> x.literal(4));
        Check.due("close is not barred", 103, () -> x.close());
        Check.due("the next clause has no room", Check.STATE, () -> x.literal(2));
        x.clear();
        x.variable();
        Check.due("room after clear", 1, () -> x.literal(0));
    }

    private static void close() {
        LearningSolver x = with(2);
        clause(x, 0, 2);
        Check.due("two values of three", 3, () -> x.ways(0, 2));
        clause(x, 1, 3);
        Check.due("then two", 2, () -> x.ways(0, 2));
        Check.due("a clause twice is two", 3, () -> {
            x.literal(1);
            x.literal(3);
            return x.close();
        });
        Check.due("but changes nothing", 2, () -> x.ways(0, 2));
        LearningSolver bare = new LearningSolver();
        for (int i = 1; i <= 500; i++) {
            int want = i;
            Check.due("close without literals", want, () -> bare.close());
        }
        Check.due("a 501st", Check.STATE, () -> bare.close());
        Check.due("and again", Check.STATE, () -> bare.close());
    }

    private static void assume() {
        LearningSolver x = with(2);
        for (int i = 1; i <= 64; i++) {
            int want = i;
            Check.due("assume", want, () -> x.assume(want == 64 ? 1 : 0));
        }
        Check.due("a 65th assumption", Check.STATE, () -> x.assume(0));
        Check.due("all 64 count", false, x.solve());
        Check.due("the 64th is to blame", 64, () -> x.blame());
        Check.due("there are none then", 1, () -> x.assume(3));
        for (int l : new int[] {-1, 4, 5, 32, Integer.MAX_VALUE, Integer.MIN_VALUE}) {
            Check.due("assume(" + l + ")", Check.ARGUMENT, () -> x.assume(l));
        }
        Check.due("the first stands", 2, () -> x.assume(0));
        Check.due("solve", true, x.solve());
        Check.same("both hold", "10", leastRow(x, 2));
    }

    private static void solve() {
        Check.due("nothing at all is solved", true, new LearningSolver().solve());
        LearningSolver x = with(9);
        clause(x, 0, 14);
        clause(x, 1, 16);
        Check.due("without assumptions", true, x.solve());
        Check.due("with two that go", true, solveWith(x, 15, 16));
        Check.due("with two that don't", false, solveWith(x, 15, 17));
        Check.due("they are gone after solve", true, x.solve());
        Check.due("a literal and its other", false, solveWith(x, 6, 7));
        Check.due("a literal twice", true, solveWith(x, 6, 6));
        Check.due("assumptions are no clauses", 2, () -> x.must(6));
        clause(x, 15);
        clause(x, 17);
        Check.due("too many clauses", false, x.solve());
    }

    private static void solveLooksAtClosedClausesAlone() {
        LearningSolver x = with(1);
        clause(x, 0);
        x.literal(1);
        Check.due("what is written does not count", true, x.solve());
        Check.due("nor for must", 1, () -> x.must(0));
        Check.due("nor for ways", 1, () -> x.ways(0, 1));
        Check.due("solve leaves it written", 2, () -> x.literal(1));
        x.close();
        Check.due("closed it counts", false, x.solve());
        LearningSolver later = with(1);
        later.literal(1);
        later.variable();
        later.literal(2);
        later.close();
        Check.due("a variable may come while a clause is written", 3, () -> later.ways(0, 2));
    }

    private static void blame() {
        LearningSolver x = with(8);
        clause(x, 1, 3, 14);
        Check.due("no solve yet", NONE, () -> x.blame());
        Check.due("solve", true, solveWith(x, 0, 2));
        Check.due("after true", NONE, () -> x.blame());
        Check.due("solve", false, solveWith(x, 4, 0, 6, 2, 8, 15, 10, 11));
        Check.due("the prefix that is too many", 6, () -> x.blame());
        Check.due("solve", false, solveWith(x, 15, 2, 0, 4));
        Check.due("another order", 3, () -> x.blame());
        Check.due("solve", false, solveWith(x, 4, 5));
        Check.due("the assumptions by themselves", 2, () -> x.blame());
        clause(x, 15);
        clause(x, 0);
        Check.due("solve", false, solveWith(x, 2, 4));
        Check.due("the first alone", 1, () -> x.blame());
        clause(x, 2);
        Check.due("solve", false, solveWith(x, 4, 5));
        Check.due("no solution at all", 0, () -> x.blame());
        LearningSolver none = new LearningSolver();
        none.close();
        Check.due("solve", false, none.solve());
        Check.due("the empty clause", 0, () -> none.blame());
    }

    private static void blameIsOfThen() {
        LearningSolver x = with(2);
        clause(x, 1, 3);
        Check.due("solve", false, solveWith(x, 0, 2));
        clause(x, 1);
        x.assume(3);
        x.variable();
        Check.due("of the clauses of then", 2, () -> x.blame());
        Check.due("proved too", true, x.proved());
        x.close();
        Check.due("still", 2, () -> x.blame());
        Check.due("solve", false, x.solve());
        Check.due("of the latest solve", 0, () -> x.blame());
        Check.due("must leaves it", NONE, () -> x.must(0));
        Check.due("ways leaves it", 0, () -> x.ways(0, 0));
        Check.due("so it is as it was", 0, () -> x.blame());
    }

    private static void least() {
        LearningSolver x = with(9);
        Check.due("no solve yet", NONE, () -> x.least(0));
        Check.due("solve", true, x.solve());
        Check.same("all 0", "000000000", leastRow(x, 9));
        clause(x, 0, 2);
        clause(x, 1, 16);
        clause(x, 3, 14);
        Check.due("solve", true, x.solve());
        Check.same("0 at the first variable counts most", "010000010", leastRow(x, 9));
        Check.due("solve", true, solveWith(x, 0));
        Check.same("under an assumption", "100000001", leastRow(x, 9));
        Check.due("solve", true, solveWith(x, 15));
        Check.same("under another", "100000001", leastRow(x, 9));
        Check.due("solve", false, solveWith(x, 15, 17));
        Check.same("after false", "---------", leastRow(x, 9));
        for (int first = 0; first < 15; first++) {
            for (int second = first + 1; second < 16; second++) {
                LearningSolver two = with(16);
                clause(two, 2 * second, 2 * first);
                Check.due("solve", true, two.solve());
                StringBuilder want = new StringBuilder("0000000000000000");
                want.setCharAt(second, '1');
                Check.same("the later of two is 1", want.toString(), leastRow(two, 16));
            }
        }
        for (int v : new int[] {-1, 9, 16, Integer.MAX_VALUE, Integer.MIN_VALUE}) {
            Check.due("least(" + v + ")", Check.INDEX, () -> x.least(v));
        }
    }

    private static void leastIsOfThen() {
        LearningSolver x = with(1);
        clause(x, 0);
        Check.due("solve", true, x.solve());
        x.variable();
        Check.same("a variable that came later", "1-", leastRow(x, 2));
        clause(x, 2);
        clause(x, 1);
        x.assume(3);
        Check.due("no solution now", NONE, () -> x.must(0));
        Check.due("none", 0, () -> x.ways(0, 2));
        Check.same("of the clauses and variables of then", "1-", leastRow(x, 2));
        Check.due("shown too", true, x.shown());
        Check.due("there is no third one", Check.INDEX, () -> x.least(2));
    }

    private static void must() {
        LearningSolver x = with(12);
        clause(x, 0, 22);
        Check.due("some", 2, () -> x.must(0));
        Check.due("some", 2, () -> x.must(23));
        clause(x, 1);
        Check.due("none", 0, () -> x.must(0));
        Check.due("all", 1, () -> x.must(1));
        Check.due("all", 1, () -> x.must(22));
        Check.due("none", 0, () -> x.must(23));
        Check.due("free", 2, () -> x.must(10));
        x.assume(10);
        Check.due("assumptions don't count", 2, () -> x.must(10));
        Check.due("solve", true, x.solve());
        Check.due("asked ones neither", 2, () -> x.must(10));
        for (int l : new int[] {-1, -2, 24, 25, 32, Integer.MAX_VALUE, Integer.MIN_VALUE}) {
            Check.due("must(" + l + ")", Check.ARGUMENT, () -> x.must(l));
        }
        clause(x, 23);
        Check.due("no solution", NONE, () -> x.must(0));
        Check.due("no solution", NONE, () -> x.must(11));
        Check.due("must(24) even so", Check.ARGUMENT, () -> x.must(24));
    }

    private static void ways() {
        LearningSolver x = with(3);
        clause(x, 0, 2);
        clause(x, 1, 4);
        int[][] due = {{0, 0, 1}, {0, 1, 2}, {0, 2, 3}, {0, 3, 4}, {1, 2, 3}, {2, 1, 2}, {3, 0, 1}};
        for (int[] d : due) {
            Check.due("ways(" + d[0] + ", " + d[1] + ")", d[2], () -> x.ways(d[0], d[1]));
        }
        int[][] index = {{4, 0}, {3, 1}, {0, 4}, {0, 8}, {-1, 0}, {-1, 3}, {-8, 8},
            {Integer.MAX_VALUE, 8}, {Integer.MAX_VALUE, 0}, {Integer.MIN_VALUE, 8}};
        for (int[] d : index) {
            Check.due("ways(" + d[0] + ", " + d[1] + ")", Check.INDEX, () -> x.ways(d[0], d[1]));
        }
        int[] wrong = {-1, 9, 16, Integer.MAX_VALUE, Integer.MIN_VALUE};
        for (int n : wrong) {
            Check.due("ways(0, " + n + ")", Check.ARGUMENT, () -> x.ways(0, n));
        }
        x.assume(1);
        Check.due("assumptions don't count", 4, () -> x.ways(0, 3));
        x.close();
        Check.due("no solution", 0, () -> x.ways(0, 3));
        Check.due("no solution has no empty row", 0, () -> x.ways(3, 0));
    }

    private static void waysWithSixteenVariables() {
        LearningSolver x = with(16);
        for (int from = 0; from <= 8; from++) {
            int f = from;
            Check.due("all values", 256, () -> x.ways(f, 8));
        }
        Check.due("from 9 there are 7", Check.INDEX, () -> x.ways(9, 8));
        for (int v = 0; v < 15; v++) {
            clause(x, 2 * v + 1, 2 * v + 2);
        }
        for (int n = 0; n <= 8; n++) {
            for (int from = 0; from + n <= 16; from++) {
                int f = from;
                int m = n;
                Check.due("a chain has ways(" + f + ", " + m + ")", m + 1, () -> x.ways(f, m));
            }
        }
        Check.due("solve", true, solveWith(x, 10));
        Check.same("it pulls", "0000011111111111", leastRow(x, 16));
        Check.due("from 17 on there are not even 0", Check.INDEX, () -> x.ways(17, 0));
    }

    private static void shownAndProved() {
        LearningSolver x = with(2);
        Check.due("shown before solve", false, x.shown());
        Check.due("proved before solve", false, x.proved());
        clause(x, 0, 2);
        Check.due("solve", true, solveWith(x, 1));
        Check.due("shown", true, x.shown());
        Check.due("proved", false, x.proved());
        clause(x, 0);
        Check.due("shown is of then", true, x.shown());
        Check.due("solve", false, solveWith(x, 2, 1));
        Check.due("shown", false, x.shown());
        Check.due("proved", true, x.proved());
        Check.due("solve", true, x.solve());
        Check.due("shown again", true, x.shown());
        Check.due("proved no more", false, x.proved());
        clause(x, 1);
        Check.due("solve", false, x.solve());
        Check.due("proved with nothing to blame", true, x.proved());
        Check.due("not shown", false, x.shown());
    }

    private static void clear() {
        LearningSolver x = with(16);
        clause(x, 0);
        x.literal(3);
        x.assume(1);
        Check.due("solve", false, x.solve());
        x.assume(1);
        x.clear();
        isNew("after false and clear", x);
        LearningSolver y = with(7);
        clause(y, 12);
        Check.due("solve", true, y.solve());
        y.clear();
        isNew("after true and clear", y);
        y.clear();
        for (int v = 0; v < 16; v++) {
            int want = v;
            Check.due("variables from 0 again", want, () -> y.variable());
        }
        Check.due("nothing of the old clauses", 256, () -> y.ways(0, 8));
        y.close();
        y.clear();
        y.clear();
        Check.due("clear twice", true, y.solve());
        LearningSolver z = new LearningSolver();
        z.close();
        z.clear();
        isNew("after an empty clause and clear", z);
        LearningSolver full = with(1);
        for (int i = 0; i < 64; i++) {
            full.assume(0);
        }
        for (int i = 0; i < 40; i++) {
            full.literal(0);
        }
        full.clear();
        full.variable();
        Check.due("no literals are written", 1, () -> full.literal(0));
        Check.due("no assumptions are left", 1, () -> full.assume(0));
    }

    private static void firstNamedIsThrown() {
        LearningSolver x = with(1);
        for (int i = 0; i < 40; i++) {
            x.literal(0);
        }
        for (int i = 0; i < 64; i++) {
            x.assume(0);
        }
        Check.due("literal: the argument first", Check.ARGUMENT, () -> x.literal(2));
        Check.due("literal: then the state", Check.STATE, () -> x.literal(1));
        Check.due("assume: the argument first", Check.ARGUMENT, () -> x.assume(-1));
        Check.due("assume: then the state", Check.STATE, () -> x.assume(1));
        Check.due("ways: the argument first", Check.ARGUMENT, () -> x.ways(-1, 9));
        Check.due("ways: the argument first", Check.ARGUMENT, () -> x.ways(5, -1));
        Check.due("ways: then the index", Check.INDEX, () -> x.ways(5, 1));
    }

    private static void throwingCallsChangeNothing() {
        for (int which = 0; which < THROWING; which++) {
            Check.same("after true, call " + which + " that throws changes nothing",
                story(true, NONE), story(true, which));
            Check.same("after false, call " + which + " that throws changes nothing",
                story(false, NONE), story(false, which));
        }
        closeThatThrowsChangesNothing();
        waysThatThrowsLeavesTheLatestSolve();
    }

    private static void closeThatThrowsChangesNothing() {
        LearningSolver x = with(1);
        Check.due("solve", true, x.solve());
        for (int i = 0; i < 500; i++) {
            x.close();
        }
        x.literal(0);
        Check.due("close", Check.STATE, () -> x.close());
        Check.due("the clause is still written", 2, () -> x.literal(0));
        Check.due("close again", Check.STATE, () -> x.close());
        Check.due("still", 3, () -> x.literal(0));
        Check.due("the latest solve stands", 0, () -> x.least(0));
    }

    private static void waysThatThrowsLeavesTheLatestSolve() {
        LearningSolver x = with(3);
        clause(x, 4);
        x.assume(0);
        Check.due("solve", true, x.solve());
        x.literal(1);
        x.assume(1);
        Check.due("ways", Check.INDEX, () -> x.ways(3, 1));
        Check.due("ways", Check.ARGUMENT, () -> x.ways(0, 9));
        Check.same("the least solution", "101", leastRow(x, 3));
        Check.due("the clause that is written", 2, () -> x.literal(1));
        Check.due("the assumptions", 2, () -> x.assume(1));
    }

    private static final int THROWING = 13;

    private static int throwing(LearningSolver x, int which) {
        switch (which) {
            case 0: return Check.of(() -> x.variable());
            case 1: return Check.of(() -> x.literal(-1));
            case 2: return Check.of(() -> x.literal(32));
            case 3: return Check.of(() -> x.literal(0));
            case 4: return Check.of(() -> x.assume(-1));
            case 5: return Check.of(() -> x.assume(32));
            case 6: return Check.of(() -> x.assume(0));
            case 7: return Check.of(() -> x.least(-1));
            case 8: return Check.of(() -> x.least(16));
            case 9: return Check.of(() -> x.must(-1));
            case 10: return Check.of(() -> x.must(32));
            case 11: return Check.of(() -> x.ways(0, 9));
            default: return Check.of(() -> x.ways(9, 8));
        }
    }

    /** All that an object with full rows answers, with a call that throws before each stage. */
    private static String story(boolean goes, int which) {
        LearningSolver x = with(16);
        StringBuilder told = new StringBuilder();
        for (int v = 1; v < 9; v++) {
            clause(x, 0, 2 * v, 30);
        }
        for (int i = 0; i < 40; i++) {
            x.literal(i % 2 == 0 ? 1 : 31);
        }
        solveWith(x, 1, 1, 1, 2, goes ? 30 : 31, 5);
        for (int i = 0; i < 64; i++) {
            x.assume(goes ? 0 : i % 32);
        }
        throwNow(x, which);
        tell(x, told);
        throwNow(x, which);
        told.append(' ').append(Check.of(() -> x.literal(0)));
        told.append(' ').append(Check.of(() -> x.assume(0)));
        told.append(' ').append(Check.of(() -> x.close()));
        told.append(' ').append(Check.of(() -> x.literal(0)));
        told.append(' ').append(x.solve());
        told.append(' ').append(Check.of(() -> x.assume(0)));
        tell(x, told);
        return told.toString();
    }

    private static void throwNow(LearningSolver x, int which) {
        if (which != NONE) {
            Check.due("call " + which + " throws", true, throwing(x, which) >= Check.ARGUMENT);
        }
    }

    private static void tell(LearningSolver x, StringBuilder told) {
        told.append(' ').append(x.blame()).append(x.shown()).append(x.proved());
        told.append(leastRow(x, 16));
        for (int l = 0; l < 32; l++) {
            told.append(' ').append(x.must(l));
        }
        for (int from = 0; from <= 8; from++) {
            told.append(' ').append(x.ways(from, 8));
        }
    }
}
