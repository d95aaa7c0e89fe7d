import java.util.Arrays;
import java.util.List;

/**
 * Each sentence of the document that names an edge, in the document's order: the last value that is
 * taken, the first that is refused, the least and the greatest int, and that a refused call changes
 * no later answer. One method for each sentence, and the sentence is told when it does not hold.
 */
public final class EdgesTest {
    private static final String ARGUMENT = Story.ARGUMENT;
    private static final String STATE = Story.STATE;
    private static final String INDEX = Story.INDEX;
    private static final String NONE = Story.NONE;
    private static final int LEAST = Integer.MIN_VALUE;
    private static final int GREATEST = Integer.MAX_VALUE;

    public static void main(String[] args) {
        whatItIs();
        terms();
        promises1To5();
        promises6To8();
        promises9To13();
        Check.end();
    }

    private static void whatItIs() {
        the512thCallIsExact();
        all512CallsOfOneKindAreExact();
        all512CallsMayBeRefused();
    }

    private static void terms() {
        literalIsTrueIfItsVariableIs();
        anyLiteralAnyNumberOfTimes();
        bothLiteralsOfAVariable();
        clauseWithoutLiteralsIsNeverTrue();
        lesserRowHas0WhereTheyDifferFirst();
        literalThrowsTheFirstNamed();
        assumeThrowsTheFirstNamed();
        waysThrowsTheFirstNamed();
    }

    private static void promises1To5() {
        newHasNoVariables();
        newHasNoClauses();
        newHasAnEmptyWrittenClause();
        newHasNoAssumptions();
        objectsAreApart();
        thereAre16();
        literalNoSuchLiteral();
        clauseHas40();
        allClausesHave4000();
        allClausesHave4000WithThoseWritten();
        refusedLiteralIsNotOneOf4000();
        thereAre500();
        thereAre500ThatCanAllBeTrue();
        closeWithoutLiterals();
        nextClauseIsWrittenThen();
        assumeNoSuchLiteral();
        thereAre64();
    }

    private static void promises6To8() {
        solveWithNothing();
        solveWithoutAssumptions();
        solveWithoutClauses();
        solveOfAllVariables();
        solveOfClosedClauses();
        noneToBeAssumedThen();
        blame0WhenThereIsNoneAtAll();
        blameIsTheLeast();
        blameNoneIfItAnsweredTrue();
        blameNoneIfThereWasNone();
        blameOfTheClausesOfThen();
        leastNoneIfItAnsweredFalse();
        leastNoneIfThereWasNone();
        leastNoneIfTheVariableCameLater();
        leastOfTheClausesOfThen();
        leastNoSuchVariable();
    }

    private static void promises9To13() {
        mustNoneIfThereIsNoSolution();
        mustNoSuchLiteral();
        mustInAllInNoneInSome();
        waysNIsNot0To8();
        waysFromIsBelow0();
        waysNotSoManyFromThereOn();
        waysFromForN0();
        waysOfNoSolution();
        askingCallsChangeNothing();
        shownAndProvedBeforeTheFirstSolve();
        shownAndProvedAfterClear();
        shownAfterLaterClauses();
        provedAfterLaterClauses();
        allIsGone();
    }

    // ---- objects to begin with

    private static Story with(String sentence, int variables) {
        return new Story(sentence).times(variables, "variable()");
    }

    private static Story clause(Story x, int... literals) {
        for (int l : literals) {
            x.take("literal(" + l + ")");
        }
        return x.take("close()");
    }

    private static Story assume(Story x, int... literals) {
        for (int l : literals) {
            x.take("assume(" + l + ")");
        }
        return x;
    }

    /** Objects in all kinds of states, each with much that a refused call could spoil. */
    private static List<Story> states(String sentence) {
        return Arrays.asList(new Story(sentence), cleared(sentence), neverSolved(sentence),
            solved(sentence), unsolved(sentence), unsolvable(sentence), full(sentence),
            fullLater(sentence));
    }

    private static Story cleared(String sentence) {
        Story x = with(sentence, 3);
        clause(x, 5).take("literal(1)", "assume(1)", "solve()", "assume(2)", "clear()");
        return x.take("variable()");
    }

    private static Story neverSolved(String sentence) {
        Story x = with(sentence, 7);
        return clause(x, 12, 1).take("literal(13)", "assume(12)");
    }

    private static Story solved(String sentence) {
        Story x = with(sentence, 3);
        clause(x, 0, 2);
        clause(x, 1, 4);
        assume(x, 1).take("solve()", "variable()", "literal(3)");
        return assume(x, 0, 6);
    }

    private static Story unsolved(String sentence) {
        Story x = with(sentence, 3);
        clause(x, 1, 3);
        assume(x, 4, 0, 2, 5).take("solve()", "variable()");
        return clause(x, 1).take("literal(3)", "assume(3)");
    }

    private static Story unsolvable(String sentence) {
        Story x = with(sentence, 2);
        return clause(x).take("assume(0)", "solve()", "literal(1)", "assume(3)");
    }

    /** As many variables, written literals and assumptions as there may be. */
    private static Story full(String sentence) {
        Story x = with(sentence, 16);
        for (int v = 1; v < 9; v++) {
            clause(x, 0, 2 * v, 30);
        }
        assume(x, 1, 31).take("solve()").times(20, "literal(1)").times(20, "literal(31)");
        return x.times(32, "assume(1)").times(32, "assume(31)");
    }

    /** The same, but most variables came after a solve() that answered true. */
    private static Story fullLater(String sentence) {
        Story x = with(sentence, 5);
        clause(x, 4, 0);
        assume(x, 1, 6).take("solve()").times(11, "variable()").times(40, "literal(30)");
        return x.times(64, "assume(31)");
    }

    private static int[] noLiterals(int variables) {
        return new int[] {-1, -2, 2 * variables, 2 * variables + 1, 2 * variables + 2, LEAST,
            LEAST + 1, GREATEST - 1, GREATEST};
    }

    // ---- What it is

    private static final String CALLS = "An object is used for at most 512 calls";

    private static void the512thCallIsExact() {
        the512thCall("6", "variable()");
        the512thCall("2", "literal(0)");
        the512thCall(ARGUMENT, "literal(12)");
        the512thCall("4", "close()");
        the512thCall("2", "assume(0)");
        the512thCall("true", "solve()");
        the512thCall("2", "blame()");
        the512thCall(NONE, "least(0)");
        the512thCall(INDEX, "least(6)");
        the512thCall("0", "must(4)");
        the512thCall("2", "must(3)");
        the512thCall("3", "ways(0, 3)");
        the512thCall("false", "shown()");
        the512thCall("true", "proved()");
        the512thCall("nothing", "clear()");
    }

    private static void the512thCall(String want, String text) {
        Story x = with(CALLS, 6);
        clause(x, 0, 2);
        clause(x, 1, 6);
        clause(x, 5).take("literal(3)");
        while (x.calls() < 505) {
            x.take("assume(0)", "solve()");
        }
        x.take("shown()", "shown()");
        x.due("1", "assume(0)").due("2", "assume(7)").due("false", "solve()").due("1", "assume(7)");
        Check.same(CALLS + ": calls before the last", 511, x.calls());
        x.due(want, text);
    }

    private static void all512CallsOfOneKindAreExact() {
        Story literals = with(CALLS, 1);
        for (int c = 1; c <= 12; c++) {
            for (int k = 1; k <= 40; k++) {
                literals.due(k, "literal(1)");
            }
            literals.due(c, "close()");
        }
        Story solves = clause(with(CALLS, 9), 16);
        Story musts = clause(with(CALLS, 9), 16);
        Story ways = clause(with(CALLS, 9), 16);
        for (int i = 0; i < 501; i++) {
            solves.due("true", "solve()");
            musts.due(1, "must(16)");
            ways.due(128, "ways(1, 8)");
        }
        new Story(CALLS).times(511, "clear()").due("0", "variable()");
        new Story(CALLS).times(500, "close()").throwsOften(12, STATE, "close()");
        with(CALLS, 16).throwsOften(496, STATE, "variable()");
        with(CALLS, 1).times(40, "literal(0)").throwsOften(471, STATE, "literal(0)");
        with(CALLS, 1).times(64, "assume(0)").throwsOften(447, STATE, "assume(0)");
    }

    private static void all512CallsMayBeRefused() {
        for (String text : new String[] {"literal(0)", "assume(0)", "must(0)", "ways(0, 9)"}) {
            new Story(CALLS).throwsOften(512, ARGUMENT, text);
        }
        new Story(CALLS).throwsOften(511, INDEX, "least(0)").due("0", "variable()");
        new Story(CALLS).throwsOften(511, INDEX, "ways(1, 0)").due("1", "ways(0, 0)");
        with(CALLS, 16).times(494, "shown()").refused(STATE, "variable()").due("false", "shown()");
    }

    // ---- Terms

    private static void literalIsTrueIfItsVariableIs() {
        for (int v = 0; v < 16; v++) {
            String row = "0000000000000000".substring(0, v) + "1" + "0000000000000000".substring(v + 1);
            Story one = with("2 v is true if v is 1", 16);
            clause(one, 2 * v).due(1, "must(" + 2 * v + ")").due("true", "solve()").leastIs(row);
            Story zero = with("2 v + 1 is true if v is 0", 16);
            clause(zero, 2 * v + 1).due(0, "must(" + 2 * v + ")");
            assume(zero, 2 * v).due("false", "solve()");
        }
    }

    private static void anyLiteralAnyNumberOfTimes() {
        String sentence = "A clause is a row of literals, with any of them any number of times";
        for (int l = 0; l < 32; l++) {
            Story x = with(sentence, 16);
            for (int k = 1; k <= 40; k++) {
                x.due(k, "literal(" + l + ")");
            }
            x.due(1, "close()").due(1, "must(" + l + ")").due(2, "must(" + (l + 2) % 32 + ")");
        }
        Story two = with(sentence, 2);
        clause(two, 0, 2, 0, 2, 2).due(3, "ways(0, 2)");
        clause(two, 0, 2, 0, 2, 2).due(3, "ways(0, 2)");
        Story assumed = with(sentence, 2);
        assume(assumed, 0, 0, 3, 0, 3).due("true", "solve()").leastIs("10");
    }

    private static void bothLiteralsOfAVariable() {
        for (int v = 0; v < 16; v++) {
            Story x = with("A clause is true if one of its literals is", 16);
            clause(x, 2 * v, 2 * v + 1).due(2, "must(" + 2 * v + ")").due(256, "ways(0, 8)");
            clause(x, 2 * v + 1, 2 * v, 2 * v).due(256, "ways(8, 8)").due("true", "solve()");
        }
    }

    private static void clauseWithoutLiteralsIsNeverTrue() {
        String sentence = "A clause without literals is never true";
        for (int n = 0; n <= 16; n++) {
            Story x = with(sentence, n);
            x.due("true", "solve()").due(1, "close()").due("false", "solve()").due(0, "blame()");
            x.due(0, "ways(0, " + Math.min(8, n) + ")");
            if (n < 16) {
                x.due(n, "variable()").due("false", "solve()").due(NONE, "must(" + 2 * n + ")");
                clause(x, 2 * n).due("false", "solve()").due(0, "ways(" + n + ", 1)");
            }
        }
    }

    /** Two solutions only: 0 and then all 1, or 1 and then all 0, from each variable on. */
    private static void lesserRowHas0WhereTheyDifferFirst() {
        for (int first = 0; first < 16; first++) {
            Story x = with("The lesser row is that with 0 where they differ first", 16);
            StringBuilder lesser = new StringBuilder();
            StringBuilder other = new StringBuilder();
            for (int v = 0; v < 16; v++) {
                if (v < first) {
                    clause(x, 2 * v + 1 - v % 2);
                } else if (v > first) {
                    clause(x, 2 * first, 2 * v);
                    clause(x, 2 * first + 1, 2 * v + 1);
                }
                lesser.append(v < first ? v % 2 : v == first ? 0 : 1);
                other.append(v < first ? v % 2 : v == first ? 1 : 0);
            }
            x.due("true", "solve()").leastIs(lesser.toString());
            assume(x, 2 * first).due("true", "solve()").leastIs(other.toString());
        }
    }

    private static void literalThrowsTheFirstNamed() {
        String sentence = "literal throws the one named first when both would do";
        for (int n : new int[] {1, 16}) {
            Story x = with(sentence, n).times(40, "literal(0)");
            for (int l : noLiterals(n)) {
                x.refused(ARGUMENT, "literal(" + l + ")");
            }
            x.refused(STATE, "literal(" + (2 * n - 1) + ")");
        }
        Story x = with(sentence, 2).ofAnyLength();
        for (int c = 0; c < 100; c++) {
            x.times(40, "literal(0)").take("close()");
        }
        x.refused(ARGUMENT, "literal(4)").refused(ARGUMENT, "literal(-1)").refused(STATE, "literal(3)");
    }

    private static void assumeThrowsTheFirstNamed() {
        for (int n : new int[] {1, 16}) {
            Story x = with("assume throws the one named first when both would do", n);
            x.times(64, "assume(0)");
            for (int l : noLiterals(n)) {
                x.refused(ARGUMENT, "assume(" + l + ")");
            }
            x.refused(STATE, "assume(" + (2 * n - 1) + ")");
        }
    }

    private static void waysThrowsTheFirstNamed() {
        for (Story x : states("ways throws the one named first when both would do")) {
            for (int n : new int[] {LEAST, -1, 9, GREATEST}) {
                for (int from : new int[] {LEAST, -1, x.variables() + 1, GREATEST}) {
                    x.refused(ARGUMENT, "ways(" + from + ", " + n + ")");
                }
            }
            x.refused(INDEX, "ways(-1, 8)").refused(INDEX, "ways(" + (x.variables() + 1) + ", 0)");
        }
    }

    // ---- Promise 1

    private static void newHasNoVariables() {
        Story x = new Story("A new object has no variables");
        x.refused(INDEX, "least(0)").refused(ARGUMENT, "must(0)").refused(ARGUMENT, "must(1)");
        x.refused(ARGUMENT, "literal(0)").refused(ARGUMENT, "literal(1)");
        x.refused(ARGUMENT, "assume(0)").refused(ARGUMENT, "assume(1)");
        x.refused(INDEX, "ways(0, 1)").refused(INDEX, "ways(1, 0)");
        x.due(1, "ways(0, 0)").due(0, "variable()").due(2, "must(0)").due(2, "ways(0, 1)");
    }

    private static void newHasNoClauses() {
        new Story("A new object has no clauses").due("true", "solve()").due(1, "ways(0, 0)")
            .due(1, "close()");
    }

    private static void newHasAnEmptyWrittenClause() {
        String sentence = "A new object's written clause is empty";
        new Story(sentence).due(1, "close()").due("false", "solve()");
        with(sentence, 1).due(1, "literal(0)");
        Story x = with(sentence, 1);
        for (int k = 1; k <= 40; k++) {
            x.due(k, "literal(1)");
        }
        x.due(1, "close()").due(0, "must(0)");
    }

    private static void newHasNoAssumptions() {
        String sentence = "A new object's assumptions are empty";
        with(sentence, 1).due(1, "assume(0)");
        Story x = with(sentence, 1);
        for (int k = 1; k <= 64; k++) {
            x.due(k, "assume(1)");
        }
        x.due("true", "solve()").due(NONE, "blame()");
    }

    /** The rows that an object uses again are its own. */
    private static void objectsAreApart() {
        String sentence = "A new object, beside another";
        Story one = with(sentence, 8);
        Story other = new Story(sentence);
        clause(one, 1, 14).take("literal(0)", "assume(0)");
        other.due(0, "variable()").due(1, "literal(1)").due(1, "assume(1)").due(1, "close()");
        other.due("true", "solve()").due(0, "least(0)").due(NONE, "blame()");
        one.due(2, "assume(15)").due("false", "solve()").due(2, "blame()").due(2, "literal(0)");
        other.due(NONE, "blame()").due("true", "shown()").due(1, "must(1)").due(1, "ways(0, 1)");
        one.due("true", "proved()").due(3, "literal(0)").due(2, "must(0)").due(2, "ways(0, 1)");
        other.due(1, "literal(1)");
        one.due(2, "close()").due(1, "must(0)").due(1, "ways(0, 1)");
        new Story(sentence).due("true", "solve()").due(0, "variable()").due(2, "must(0)");
    }

    // ---- Promise 2

    private static void thereAre16() {
        String sentence = "variable: there are 16";
        Story x = new Story(sentence);
        for (int v = 0; v < 16; v++) {
            x.due(v, "variable()");
        }
        x.refused(STATE, "variable()").refused(STATE, "variable()");
        x.due(2, "must(31)").due(256, "ways(8, 8)").due("true", "solve()").due(0, "least(15)");
        x.refused(ARGUMENT, "must(32)").refused(INDEX, "least(16)").refused(INDEX, "ways(9, 8)");
        x.refused(STATE, "variable()");
        full(sentence).refused(STATE, "variable()");
        fullLater(sentence).leastIs("00110-----------").refused(STATE, "variable()");
        Story none = with(sentence, 16).take("close()", "solve()", "assume(31)", "literal(30)");
        none.refused(STATE, "variable()");
        Story again = with(sentence, 16).take("clear()");
        for (int v = 0; v < 16; v++) {
            again.due(v, "variable()");
        }
        again.refused(STATE, "variable()");
    }

    // ---- Promise 3

    private static void literalNoSuchLiteral() {
        String sentence = "literal: there is no such literal";
        for (int n = 1; n <= 16; n++) {
            Story x = with(sentence, n).due(1, "literal(0)").due(2, "literal(" + (2 * n - 1) + ")");
            x.refused(ARGUMENT, "literal(" + 2 * n + ")").due(3, "literal(" + (2 * n - 2) + ")");
        }
        for (Story x : states(sentence)) {
            for (int l : noLiterals(x.variables())) {
                x.refused(ARGUMENT, "literal(" + l + ")");
            }
        }
        Story later = with(sentence, 1).refused(ARGUMENT, "literal(2)").take("variable()");
        later.due(1, "literal(2)").due(2, "literal(3)").refused(ARGUMENT, "literal(4)");
    }

    private static void clauseHas40() {
        String sentence = "literal: the clause has 40";
        Story x = with(sentence, 3);
        for (int clause = 1; clause <= 3; clause++) {
            for (int k = 1; k <= 39; k++) {
                x.due(k, "literal(0)");
            }
            x.due(40, "literal(" + (2 * clause - 1) + ")");
            x.refused(STATE, "literal(0)").refused(STATE, "literal(5)").refused(STATE, "literal(0)");
            x.due(clause, "close()");
        }
        // The last of 40 counts: 0 or else 1, 0 or else 3, 0 or else 5.
        x.due(2, "must(0)").due(5, "ways(0, 3)");
        assume(x, 1).due("true", "solve()").leastIs("000");
        assume(x, 1, 2).due("false", "solve()").due(2, "blame()");
        full(sentence).refused(STATE, "literal(0)").refused(STATE, "literal(31)");
        fullLater(sentence).refused(STATE, "literal(0)").refused(STATE, "literal(31)");
    }

    /** These three need more than 512 calls: a literal is a call. */
    private static void allClausesHave4000() {
        Story x = with("literal: all clauses have 4000", 2).ofAnyLength();
        for (int c = 1; c <= 100; c++) {
            x.times(40, "literal(2)").due(c, "close()");
        }
        x.refused(STATE, "literal(2)").refused(STATE, "literal(0)");
        x.due(101, "close()").due("false", "solve()").refused(STATE, "literal(3)");
        x.take("clear()", "variable()");
        for (int k = 1; k <= 40; k++) {
            x.due(k, "literal(0)");
        }
        x.due(1, "close()").due(1, "literal(0)");
    }

    private static void allClausesHave4000WithThoseWritten() {
        Story x = with("literal: all clauses have 4000 with those written", 2).ofAnyLength();
        for (int c = 1; c <= 102; c++) {
            x.times(39, "literal(0)").due(c, "close()");
        }
        for (int k = 1; k <= 22; k++) {
            x.due(k, "literal(" + (k == 22 ? 2 : 3) + ")");
        }
        x.refused(STATE, "literal(2)").refused(STATE, "literal(3)");
        x.due(103, "close()").due(2, "ways(0, 2)").refused(STATE, "literal(1)");
    }

    private static void refusedLiteralIsNotOneOf4000() {
        Story x = with("literal: a refused one is none of the 4000", 2).ofAnyLength();
        clause(x.times(39, "literal(0)"));
        for (int c = 0; c < 98; c++) {
            clause(x.times(40, "literal(0)"));
        }
        x.times(40, "literal(2)");
        x.throwsOften(50, STATE, "literal(0)").throwsOften(50, ARGUMENT, "literal(4)");
        x.refused(STATE, "literal(0)").refused(ARGUMENT, "literal(4)");
        x.due(100, "close()").due(1, "literal(0)").refused(STATE, "literal(0)");
    }

    // ---- Promise 4

    private static void thereAre500() {
        String sentence = "close: there are 500";
        Story x = with(sentence, 2);
        x.take("literal(0)", "literal(2)").due(1, "close()").due("true", "solve()");
        x.take("literal(1)", "literal(0)");
        for (int c = 2; c <= 499; c++) {
            x.due(c, "close()");
        }
        x.due(1, "literal(1)").due(500, "close()").due(1, "literal(3)");
        x.refused(STATE, "close()").refused(STATE, "close()").due(2, "literal(0)");
        new Story(sentence).times(500, "close()").refused(STATE, "close()").due("false", "solve()");
        Story solved = with(sentence, 1).due("true", "solve()").times(500, "close()");
        solved.refused(STATE, "close()").due(0, "least(0)").due("true", "shown()");
        Story blamed = with(sentence, 1).take("assume(0)", "assume(1)", "solve()", "literal(0)");
        blamed.times(500, "close()").take("literal(1)", "assume(1)").refused(STATE, "close()");
        blamed.due(2, "blame()").due(2, "literal(0)").due(2, "assume(0)");
    }

    /** Needs more than 512 calls, because each clause has a literal. */
    private static void thereAre500ThatCanAllBeTrue() {
        Story x = with("close: there are 500 that can all be true", 3).ofAnyLength();
        for (int c = 1; c <= 500; c++) {
            x.take("literal(" + (c < 500 ? 2 : 4) + ")").due(c, "close()");
        }
        x.take("solve()", "literal(3)").refused(STATE, "close()").due("true", "solve()");
        x.leastIs("011").due(1, "must(4)").due(2, "literal(1)").refused(STATE, "close()");
        x.due(2, "must(0)").due(2, "must(1)").due(2, "ways(0, 3)");
        x.take("clear()", "variable()").due(1, "literal(0)").due(1, "close()");
    }

    private static void closeWithoutLiterals() {
        String sentence = "close: a clause that has no literals is one more";
        Story x = with(sentence, 1);
        x.due(1, "close()").due(2, "close()").due("false", "solve()").due(0, "blame()");
        clause(x, 0).due(4, "close()").due(NONE, "must(0)").due(0, "ways(0, 1)").due(1, "literal(0)");
    }

    private static void nextClauseIsWrittenThen() {
        String sentence = "close: the next one is written then";
        Story x = with(sentence, 3);
        x.take("literal(0)", "literal(2)", "literal(4)").due(1, "close()").due(1, "literal(1)");
        x.due(2, "close()").due(0, "must(0)").due(3, "ways(1, 2)").due(1, "literal(3)");
        x.due(3, "close()").due(1, "must(4)").due(4, "close()").due("false", "solve()");
    }

    // ---- Promise 5

    private static void assumeNoSuchLiteral() {
        String sentence = "assume: there is no such literal";
        for (int n = 1; n <= 16; n++) {
            Story x = with(sentence, n).due(1, "assume(0)").due(2, "assume(" + (2 * n - 1) + ")");
            x.refused(ARGUMENT, "assume(" + 2 * n + ")").due(3, "assume(" + (2 * n - 2) + ")");
        }
        for (Story x : states(sentence)) {
            for (int l : noLiterals(x.variables())) {
                x.refused(ARGUMENT, "assume(" + l + ")");
            }
        }
        Story later = with(sentence, 1).refused(ARGUMENT, "assume(2)").take("variable()");
        later.due(1, "assume(2)").due(2, "assume(3)").refused(ARGUMENT, "assume(4)");
    }

    private static void thereAre64() {
        String sentence = "assume: there are 64";
        Story x = with(sentence, 2);
        for (int round = 0; round < 3; round++) {
            for (int k = 1; k <= 63; k++) {
                x.due(k, "assume(0)");
            }
            x.due(64, "assume(" + (round == 1 ? 1 : 2) + ")");
            x.refused(STATE, "assume(0)").refused(STATE, "assume(3)").refused(STATE, "assume(1)");
            x.due(round != 1, "solve()").leastIs(round == 1 ? "--" : "11");
            x.due(round == 1 ? 64 : -1, "blame()");
        }
        full(sentence).refused(STATE, "assume(0)").refused(STATE, "assume(31)");
        fullLater(sentence).refused(STATE, "assume(0)").refused(STATE, "assume(31)");
    }

    // ---- Promise 6

    private static void solveWithNothing() {
        new Story("solve: no assumptions, no clauses, no variables").due("true", "solve()")
            .due("true", "shown()").due(NONE, "blame()").refused(INDEX, "least(0)")
            .due("true", "solve()").due(1, "close()").due("false", "solve()");
    }

    private static void solveWithoutAssumptions() {
        String sentence = "solve: no assumptions";
        Story x = with(sentence, 7);
        clause(x, 0, 12);
        clause(x, 1, 12).due("true", "solve()").leastIs("0000001");
        clause(x, 13).due("false", "solve()").due(0, "blame()");
    }

    private static void solveWithoutClauses() {
        for (int n = 1; n <= 16; n++) {
            Story x = with("solve: no clauses", n).due("true", "solve()");
            x.leastIs("0000000000000000".substring(0, n));
            assume(x, 2 * n - 2).due("true", "solve()").due(1, "least(" + (n - 1) + ")");
            assume(x, 2 * n - 1, 2 * n - 2).due("false", "solve()").due(2, "blame()");
        }
    }

    /** Those that no clause has, too. */
    private static void solveOfAllVariables() {
        String sentence = "solve: all variables";
        for (int v = 0; v < 16; v++) {
            Story x = with(sentence, 16);
            clause(x, v == 0 ? 2 : 0);
            String row = v == 0 ? "01" : "10";
            x.due("true", "solve()").leastIs(row + "00000000000000");
            assume(x, 2 * v).due("true", "solve()").due(1, "least(" + v + ")");
            assume(x, 2 * v, 2 * v + 1).due("false", "solve()").due(2, "blame()");
        }
        Story later = clause(with(sentence, 1), 0).take("solve()", "variable()");
        later.leastIs("1-").due("true", "solve()").leastIs("10");
    }

    private static void solveOfClosedClauses() {
        Story x = with("solve: of the closed clauses", 1).due(1, "literal(0)").due("true", "solve()");
        x.leastIs("0").due(2, "literal(0)").due(2, "must(0)").due(1, "close()").due(1, "must(0)");
        x.due(1, "literal(1)").due("true", "solve()").leastIs("1").due(2, "close()");
        x.due("false", "solve()");
    }

    private static void noneToBeAssumedThen() {
        Story x = with("solve: there are none to be assumed then", 8);
        assume(x, 14, 15).due("false", "solve()").due("true", "solve()").leastIs("00000000");
        assume(x, 14).due("true", "solve()").due(1, "assume(0)").due("true", "solve()");
        x.leastIs("10000000").due("true", "solve()").leastIs("00000000").due(1, "assume(15)");
    }

    // ---- Promise 7

    private static void blame0WhenThereIsNoneAtAll() {
        String sentence = "blame: 0 when there is no solution at all";
        for (int n = 1; n <= 16; n++) {
            Story x = with(sentence, n);
            clause(x, 2 * n - 2);
            clause(x, 2 * n - 1).due("false", "solve()").due(0, "blame()");
            assume(x, 0, 1).due("false", "solve()").due(0, "blame()").due("true", "proved()");
        }
        new Story(sentence).take("close()").due("false", "solve()").due(0, "blame()");
    }

    private static void blameIsTheLeast() {
        String sentence = "blame: the least k";
        Story x = with(sentence, 8);
        clause(x, 1, 15);
        for (int k = 2; k <= 64; k++) {
            x = clause(with(sentence, 8), 1, 15);
            assume(x, 0).times(k - 2, "assume(4)").take("assume(14)");
            x.times(64 - k, "assume(5)").due("false", "solve()").due(k, "blame()");
        }
        x = clause(with(sentence, 8), 15);
        assume(x, 14).due("false", "solve()").due(1, "blame()");
        assume(x, 14, 0, 1).due("false", "solve()").due(1, "blame()");
        assume(x, 0, 14, 1).due("false", "solve()").due(2, "blame()");
    }

    private static void blameNoneIfItAnsweredTrue() {
        Story x = clause(with("blame: NONE if it answered true", 2), 0);
        x.due("true", "solve()").due(NONE, "blame()");
        assume(x, 1).due("false", "solve()").due(1, "blame()");
        assume(x, 0, 2).due("true", "solve()").due(NONE, "blame()");
    }

    private static void blameNoneIfThereWasNone() {
        String sentence = "blame: NONE if there was no solve";
        new Story(sentence).due(NONE, "blame()").take("close()").due(NONE, "blame()");
        neverSolved(sentence).due(NONE, "blame()");
        unsolved(sentence).due(3, "blame()").take("clear()").due(NONE, "blame()");
        unsolvable(sentence).due(0, "blame()").take("clear()").due(NONE, "blame()");
    }

    private static void blameOfTheClausesOfThen() {
        String sentence = "blame: of the clauses of then";
        Story x = clause(with(sentence, 2), 1, 3);
        assume(x, 0, 2).due("false", "solve()").due(2, "blame()");
        clause(x, 1).due(2, "blame()");
        assume(x, 0).take("variable()").due(2, "blame()");
        clause(x).due(2, "blame()").due("false", "solve()").due(0, "blame()");
        Story went = assume(with(sentence, 1), 0).due("true", "solve()");
        clause(went, 1).due(NONE, "blame()").due(0, "must(0)");
        clause(went).due(NONE, "blame()");
    }

    // ---- Promise 8

    private static void leastNoneIfItAnsweredFalse() {
        String sentence = "least: NONE if it did not answer true";
        Story x = with(sentence, 16);
        x.due("true", "solve()").leastIs("0000000000000000");
        assume(x, 31, 30).due("false", "solve()").leastIs("----------------");
        x.due("true", "solve()").leastIs("0000000000000000");
        clause(x).due("false", "solve()").leastIs("----------------");
    }

    private static void leastNoneIfThereWasNone() {
        String sentence = "least: NONE if there was no solve";
        for (int n = 1; n <= 16; n++) {
            with(sentence, n).leastIs("----------------".substring(0, n));
        }
        neverSolved(sentence).leastIs("-------");
        solved(sentence).leastIs("010-").take("clear()", "variable()", "variable()").leastIs("--");
    }

    private static void leastNoneIfTheVariableCameLater() {
        for (int then = 0; then < 16; then++) {
            Story x = with("least: NONE if the variable came later", then).due("true", "solve()");
            String row = "0000000000000000".substring(0, then);
            for (int v = then; v < 16; v++) {
                x.take("variable()").due(NONE, "least(" + v + ")");
            }
            x.leastIs((row + "----------------").substring(0, 16));
            x.due("true", "solve()").leastIs("0000000000000000");
        }
    }

    private static void leastOfTheClausesOfThen() {
        Story x = clause(with("least: of the clauses and variables of then", 3), 0, 4);
        assume(x, 2).due("true", "solve()").leastIs("011");
        clause(x, 5).leastIs("011").due("true", "solve()").leastIs("100");
        assume(x, 2, 3).leastIs("100").take("must(1)", "ways(0, 3)", "literal(0)").leastIs("100");
        x.take("close()", "close()").leastIs("100").take("variable()").leastIs("100-");
        x.due("false", "solve()").leastIs("----");
    }

    private static void leastNoSuchVariable() {
        String sentence = "least: there is no such variable";
        for (int n = 1; n <= 16; n++) {
            Story x = with(sentence, n).due("true", "solve()").due(0, "least(0)");
            x.due(0, "least(" + (n - 1) + ")").refused(INDEX, "least(" + n + ")");
        }
        for (Story x : states(sentence)) {
            int n = x.variables();
            for (int v : new int[] {-1, -2, n, n + 1, 2 * n + 1, 32, LEAST, GREATEST}) {
                x.refused(INDEX, "least(" + v + ")");
            }
        }
        Story later = with(sentence, 1).take("solve()").refused(INDEX, "least(1)").take("variable()");
        later.due(NONE, "least(1)").refused(INDEX, "least(2)");
    }

    // ---- Promise 9

    private static void mustNoneIfThereIsNoSolution() {
        for (int n = 1; n <= 16; n++) {
            Story x = with("must: NONE if there is no solution", n);
            clause(x, 0);
            clause(x, 2 * n - 2).due(1, "must(0)");
            clause(x, 1, 2 * n - 1);
            for (int l = 0; l < 2 * n; l++) {
                x.due(NONE, "must(" + l + ")");
            }
        }
    }

    private static void mustNoSuchLiteral() {
        String sentence = "must: there is no such literal";
        for (int n = 1; n <= 16; n++) {
            Story x = with(sentence, n).due(2, "must(0)").due(2, "must(" + (2 * n - 1) + ")");
            x.refused(ARGUMENT, "must(" + 2 * n + ")");
        }
        for (Story x : states(sentence)) {
            for (int l : noLiterals(x.variables())) {
                x.refused(ARGUMENT, "must(" + l + ")");
            }
        }
        Story later = with(sentence, 1).refused(ARGUMENT, "must(2)").take("variable()");
        later.due(2, "must(2)").due(2, "must(3)").refused(ARGUMENT, "must(4)");
    }

    private static void mustInAllInNoneInSome() {
        for (int v = 0; v < 16; v++) {
            Story x = with("must: in all (1), in none (0), in some (2)", 16);
            int other = (v + 5) % 16;
            x.due(2, "must(" + 2 * v + ")");
            clause(x, 2 * v + 1, 2 * other);
            assume(x, 2 * v).due(2, "must(" + 2 * other + ")").due(2, "must(" + 2 * v + ")");
            clause(x, 2 * v).due(1, "must(" + 2 * v + ")").due(0, "must(" + (2 * v + 1) + ")");
            x.due(1, "must(" + 2 * other + ")").due(0, "must(" + (2 * other + 1) + ")");
        }
    }

    // ---- Promise 10

    private static void waysNIsNot0To8() {
        String sentence = "ways: n is not 0 .. 8";
        Story x = with(sentence, 16);
        for (int n = 0; n <= 8; n++) {
            x.due(1 << n, "ways(0, " + n + ")").due(1 << n, "ways(" + (16 - n) + ", " + n + ")");
        }
        x.refused(ARGUMENT, "ways(0, 9)").refused(ARGUMENT, "ways(0, -1)");
        for (Story s : states(sentence)) {
            for (int n : new int[] {-1, -2, 9, 10, 16, LEAST, LEAST + 1, GREATEST - 1, GREATEST}) {
                s.refused(ARGUMENT, "ways(0, " + n + ")");
            }
        }
    }

    private static void waysFromIsBelow0() {
        for (Story x : states("ways: from is below 0")) {
            for (int n : new int[] {0, 1, 8}) {
                for (int from : new int[] {-1, -8, -n - 1, LEAST, LEAST + 1}) {
                    x.refused(INDEX, "ways(" + from + ", " + n + ")");
                }
            }
        }
    }

    private static void waysNotSoManyFromThereOn() {
        String sentence = "ways: there are not so many from there on";
        for (int variables = 0; variables <= 16; variables++) {
            Story x = with(sentence, variables);
            for (int n = 1; n <= 8; n++) {
                if (n <= variables) {
                    x.due(1 << n, "ways(" + (variables - n) + ", " + n + ")");
                    x.due(1 << n, "ways(0, " + n + ")");
                }
                int from = Math.max(0, variables - n + 1);
                x.refused(INDEX, "ways(" + from + ", " + n + ")");
            }
        }
        for (Story x : states(sentence)) {
            for (int n : new int[] {1, 7, 8}) {
                // From the greatest ones on, from + n wraps around below 0.
                for (int from : new int[] {x.variables(), 17, GREATEST - 7, GREATEST - 1, GREATEST}) {
                    x.refused(INDEX, "ways(" + from + ", " + n + ")");
                }
            }
        }
    }

    private static void waysFromForN0() {
        String sentence = "ways: for n 0 it may be the number of variables, not more";
        for (int variables = 0; variables <= 16; variables++) {
            Story x = with(sentence, variables);
            for (int from = 0; from <= variables; from++) {
                x.due(1, "ways(" + from + ", 0)");
            }
            x.refused(INDEX, "ways(" + (variables + 1) + ", 0)");
            x.refused(INDEX, "ways(" + GREATEST + ", 0)").refused(INDEX, "ways(-1, 0)");
        }
    }

    /** Where no solution is, none has even the empty row. */
    private static void waysOfNoSolution() {
        for (int variables = 0; variables <= 16; variables++) {
            Story x = clause(with("ways: in solutions", variables));
            for (int n = 0; n <= 8 && n <= variables; n++) {
                x.due(0, "ways(0, " + n + ")").due(0, "ways(" + (variables - n) + ", " + n + ")");
            }
        }
    }

    // ---- Promises 7 to 12

    private static void askingCallsChangeNothing() {
        for (Story x : states("No state change is described for a call that only asks")) {
            x.changesNothing("blame()").changesNothing("shown()").changesNothing("proved()");
            x.changesNothing("ways(0, 0)").changesNothing("ways(0, " + Math.min(8, x.variables()) + ")");
            for (int v = 0; v < x.variables(); v += 5) {
                x.changesNothing("least(" + v + ")").changesNothing("ways(" + v + ", 1)");
                x.changesNothing("must(" + 2 * v + ")").changesNothing("must(" + (2 * v + 1) + ")");
            }
        }
    }

    // ---- Promises 11 and 12

    private static void shownAndProvedBeforeTheFirstSolve() {
        String sentence = "shown and proved before the first solve()";
        new Story(sentence).due("false", "shown()").due("false", "proved()")
            .take("close()").due("false", "shown()").due("false", "proved()");
        neverSolved(sentence).due("false", "shown()").due("false", "proved()");
        Story x = clause(with(sentence, 2), 0).take("must(0)", "ways(0, 2)", "assume(1)");
        x.due("false", "shown()").due("false", "proved()");
        x.due("false", "solve()").due("false", "shown()").due("true", "proved()");
        x.due("true", "solve()").due("true", "shown()").due("false", "proved()");
    }

    private static void shownAndProvedAfterClear() {
        for (Story x : states("shown and proved after clear()")) {
            x.take("clear()").due("false", "shown()").due("false", "proved()").take("variable()");
            x.due("false", "shown()").due("false", "proved()");
        }
    }

    private static void shownAfterLaterClauses() {
        Story x = with("shown after later clauses", 2);
        assume(x, 0).due("true", "solve()").due("true", "shown()").due("false", "proved()");
        clause(x, 1).due("true", "shown()").due("false", "proved()");
        assume(x, 0).take("variable()").due("true", "shown()");
        clause(x).due("true", "shown()").due("false", "proved()");
        x.take("must(0)", "ways(0, 3)", "literal(0)").due("true", "shown()").due("false", "proved()");
        x.due("false", "solve()").due("false", "shown()").due("true", "proved()");
    }

    private static void provedAfterLaterClauses() {
        Story x = clause(with("proved after later clauses", 2), 1, 3);
        assume(x, 0, 2).due("false", "solve()").due("true", "proved()").due("false", "shown()");
        clause(x, 1).due("true", "proved()").due("false", "shown()");
        x.take("variable()", "literal(4)", "assume(4)").due("true", "proved()");
        x.take("must(4)", "ways(0, 3)").due("true", "proved()").due("false", "shown()");
        x.take("close()").due("true", "proved()").due("false", "shown()");
        x.due("true", "solve()").due("false", "proved()").due("true", "shown()");
        clause(x).due("false", "proved()").due("true", "shown()");
    }

    // ---- Promise 13

    private static void allIsGone() {
        String sentence = "clear: all is gone, as at first";
        for (Story x : states(sentence)) {
            x.due("nothing", "clear()").isAsNew();
            x.due("nothing", "clear()").isAsNew();
        }
        Story closed = new Story(sentence).times(500, "close()").take("clear()");
        closed.isAsNew();
        closed.due(1, "close()");
        with(sentence, 16).times(64, "assume(31)").take("solve()", "clear()").isAsNew();
        // More than 512 calls: nor do the literals count that were there.
        Story literals = with(sentence, 1).ofAnyLength();
        for (int c = 0; c < 100; c++) {
            clause(literals.times(40, "literal(0)"));
        }
        literals.take("clear()").isAsNew();
    }
}
