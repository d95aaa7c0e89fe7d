import java.io.IOException;
import java.nio.file.Files;
import java.nio.file.Path;
import java.util.ArrayList;
import java.util.List;
import java.util.regex.Matcher;
import java.util.regex.Pattern;

/**
 * The document from its first line to "Not promised", sentence after sentence, each with runs that
 * would answer otherwise if the sentence were broken. In the end the document itself is read: every
 * sentence here must stand in it, and no sentence of it may be left over.
 *
 * A run is a row of calls: "close = 1" answers 1, "close ! State" throws IllegalStateException and
 * changes no later answer, "close" alone only must not throw, "3 x close" is made three times, and
 * "least = 01-" is the answer of least() for each variable, - for NONE.
 */
public final class SentencesTest {
    private static final Path DOCUMENT = Path.of("..", "shared", "DOC.md");
    private static final Pattern CALL =
        Pattern.compile("(?:(\\d+) x )?(\\w+)(\\([^)]*\\))?(?: ([=!]) (\\S+))?");
    private static final String TWO_ROWS = "literal(0); literal(2); close; literal(0); literal(4); close; "
        + "literal(1); literal(3); close; literal(1); literal(5); close; ";

    private final List<String> sentences = new ArrayList<>();
    private String sentence = "";

    public static void main(String[] args) throws IOException {
        SentencesTest test = new SentencesTest();
        test.whatItIs();
        test.variablesAndLiterals();
        test.clausesAndSolutions();
        test.exceptions();
        test.newObject();
        test.variable();
        test.literal();
        test.close();
        test.assume();
        test.solve();
        test.blame();
        test.least();
        test.must();
        test.ways();
        test.shown();
        test.proved();
        test.clear();
        test.documentHasNoOtherSentence();
        Check.end();
    }

    private void says(String words) {
        sentence = words;
        sentences.add(words);
    }

    private void run(String calls) {
        run(new Story(sentence), calls);
    }

    private void longRun(String calls) {
        run(new Story(sentence).ofAnyLength(), calls);
    }

    private static void run(Story x, String calls) {
        for (String call : calls.split("; ")) {
            step(x, call);
        }
    }

    private static void step(Story x, String call) {
        Matcher m = CALL.matcher(call);
        if (!m.matches()) {
            throw new AssertionError(call);
        }
        int count = m.group(1) == null ? 1 : Integer.parseInt(m.group(1));
        String text = m.group(2) + (m.group(3) == null ? "()" : m.group(3));
        for (int i = 0; i < count; i++) {
            if (m.group(4) == null) {
                x.take(text);
            } else if (text.equals("least()")) {
                x.leastIs(m.group(5));
            } else if (m.group(4).equals("=")) {
                x.due(m.group(5), text);
            } else {
                x.refused(exception(m.group(5)), text);
            }
        }
    }

    private static String exception(String name) {
        return name.equals("State") ? Story.STATE : name.equals("Index") ? Story.INDEX : Story.ARGUMENT;
    }

    /** The same run once for each number, which stands for the letter in it. */
    private void runForEach(String letter, int first, int last, String calls) {
        for (int i = first; i <= last; i++) {
            run(calls.replace(letter, String.valueOf(i)));
        }
    }

    // ---- What it is

    private void whatItIs() {
        says("Decides whether clauses can all be true at once, with more and more clauses, under any"
            + " assumptions: it learns from what does not go, and forgets when its room is full; what it"
            + " answers is exact.");
        moreAndMoreClauses();
        says("An object is used for at most 512 calls after it has been made; what later calls answer is"
            + " free.");
        run("variable; literal(0); close; 507 x solve = true; must(0) = 1; ways(0, 1) = 1");
        run("12 x variable; literal(22); close; assume(23); 494 x proved = false; solve = false; blame = 1");
        run("510 x clear; variable = 0; assume(0) = 1");
    }

    /** Each clause forbids the least of the rows that are left, until none is. */
    private void moreAndMoreClauses() {
        Story x = new Story(sentence);
        run(x, "3 x variable");
        for (int gone = 1; gone <= 8; gone++) {
            x.take(forEachValue(gone - 1, "literal", 0)).due(gone, "close()").due(8 - gone, "ways(0, 3)");
            for (int asked = 0; asked < 8; asked++) {
                boolean goes = asked >= gone;
                x.take(forEachValue(asked, "assume", 1)).due(goes, "solve()");
                x.due(blamed(asked, gone), "blame()").due(!goes, "proved()");
            }
            x.due(gone < 8, "solve()");
            x.leastIs(gone < 8 ? Integer.toBinaryString(8 + gone).substring(1) : "---");
        }
    }

    /** The literals of a row of three values: those true in it, or (with 0) those false in it. */
    private static String[] forEachValue(int row, String call, int trueOnes) {
        String[] calls = new String[3];
        for (int v = 0; v < 3; v++) {
            int value = row >> 2 - v & 1;
            calls[v] = call + "(" + (2 * v + (value ^ trueOnes)) + ")";
        }
        return calls;
    }

    /** How many of a row's first values no row from one on has. */
    private static int blamed(int row, int firstLeft) {
        for (int k = 0; k <= 3; k++) {
            int lastWithThem = row | 7 >> k;
            if (lastWithThem < firstLeft) {
                return k;
            }
        }
        return LearningSolver.NONE;
    }

    // ---- Terms

    private void variablesAndLiterals() {
        says("VARIABLES have the numbers 0, 1, .., and each is 0 or 1.");
        run("variable = 0; variable = 1; variable = 2; ways(0, 3) = 8; solve = true; least = 000;"
            + " assume(0); assume(2); assume(4); solve = true; least = 111; literal(5); literal(1); close;"
            + " ways(0, 1) = 2; ways(2, 1) = 2; ways(0, 3) = 6");
        runForEach("#", 0, 15, "16 x variable; must(0) = 2; ways(#, 1) = 2; solve; least(#) = 0");

        says("A LITERAL of variable v is 2 v (true if v is 1) or 2 v + 1 (true if v is 0).");
        for (int v = 0; v < 16; v++) {
            String one = "(" + 2 * v + ")";
            String zero = "(" + (2 * v + 1) + ")";
            run("16 x variable; assume" + one + "; solve = true; least(" + v + ") = 1; assume" + zero
                + "; solve = true; least(" + v + ") = 0; literal" + one + "; close; must" + one + " = 1; must"
                + zero + " = 0; assume" + zero + "; solve = false; assume" + one + "; solve = true");
            run("16 x variable; literal" + zero + "; close; must" + one + " = 0; must" + zero + " = 1;"
                + " assume" + one + "; solve = false; assume" + zero + "; solve = true");
        }
    }

    private void clausesAndSolutions() {
        says("A CLAUSE is a row of literals, with any of them any number of times; it is true if one of"
            + " them is (one without literals never is).");
        run("2 x variable; literal(0) = 1; literal(2) = 2; literal(0) = 3; literal(0) = 4; close = 1;"
            + " ways(0, 2) = 3; assume(0); assume(3); solve = true; assume(1); assume(2); solve = true;"
            + " assume(0); assume(2); solve = true; assume(1); assume(3); solve = false; blame = 2");
        run("8 x variable; literal(15); literal(15); literal(14); close; ways(7, 1) = 2; must(14) = 2");
        run("4 x variable; close = 1; solve = false; must(0) = -1; ways(0, 4) = 0");
        run("12 x variable; literal(0); literal(22); literal(11); close; assume(1); assume(23); solve = true;"
            + " least(5) = 0; assume(1); assume(23); assume(10); solve = false; blame = 3");

        says("A SOLUTION gives each variable a value, so that all clauses are true.");
        run("3 x variable; literal(0); close; solve = true; least = 100; literal(2); close; solve = true;"
            + " least = 110; ways(0, 3) = 2; literal(3); literal(1); close; solve = false; ways(0, 3) = 0");
        run("variable; literal(0); close; 15 x variable; ways(0, 8) = 128; ways(8, 8) = 256; must(30) = 2");
        for (int row = 0; row < 64; row++) {
            onlySolution(Integer.toBinaryString(64 + row).substring(1));
        }
        for (int v = 0; v < 16; v++) {
            onlySolution("0".repeat(v) + "1" + "0".repeat(15 - v));
            onlySolution("1".repeat(v) + "0" + "1".repeat(15 - v));
            onlySolution("0".repeat(v));
            onlySolution("1".repeat(v + 1));
        }
        onlySolution("0".repeat(16));

        says("ASSUMPTIONS are a row of literals.");
        run("2 x variable; assume(0) = 1; assume(0) = 2; assume(3) = 3; assume(0) = 4; solve = true;"
            + " least = 10; assume(2); assume(0); assume(1); assume(3); solve = false; blame = 3");

        says("Of two rows of values the LESSER one is that with 0 at the first variable at which they"
            + " differ.");
        run("3 x variable; " + TWO_ROWS + "ways(0, 3) = 2; solve = true; least = 011");
        run("2 x variable; literal(0); literal(2); close; solve = true; least = 01");
        run("9 x variable; literal(10); literal(12); close; literal(13); literal(16); close; solve = true;"
            + " least = 000000101");
    }

    /** A clause for each value leaves this row alone. */
    private void onlySolution(String row) {
        int n = row.length();
        Story x = new Story(sentence);
        x.times(n, "variable()");
        for (int v = 0; v < n; v++) {
            x.take("literal(" + (row.charAt(v) == '1' ? 2 * v : 2 * v + 1) + ")", "close()");
        }
        x.due("true", "solve()").due("true", "shown()").leastIs(row).due(1, "ways(0, " + Math.min(8, n) + ")");
        for (int v = 0; v < n; v++) {
            x.due(row.charAt(v), "must(" + 2 * v + ")").take("assume(" + 2 * v + ")");
            x.due(row.charAt(v) == '1', "solve()").due(row.charAt(v) == '1' ? -1 : 1, "blame()");
        }
        x.due(n + 1, "close()").due("false", "solve()").due(0, "blame()");
    }

    private void exceptions() {
        says("Methods throw what their comments name, the one named first when several would do.");
        run("variable; 40 x literal(0); literal(2) ! Argument; literal(-1) ! Argument; literal(0) ! State");
        run("variable; 64 x assume(0); assume(2) ! Argument; assume(-1) ! Argument; assume(0) ! State");
        run("variable; ways(-1, 9) ! Argument; ways(2, -1) ! Argument; ways(-1, 8) ! Index");

        says("A call that throws changes nothing.");
        run("2 x variable; literal(0); literal(2); close; assume(1); solve; variable; literal(3); assume(4);"
            + " literal(6) ! Argument; assume(-1) ! Argument; least(3) ! Index; must(6) ! Argument;"
            + " ways(0, 9) ! Argument; ways(4, 0) ! Index; least = 01-; literal(0) = 2; assume(0) = 2");
        run("16 x variable; literal(30); close; assume(31); solve; 40 x literal(0); 64 x assume(30);"
            + " variable ! State; literal(0) ! State; assume(0) ! State; least(16) ! Index;"
            + " must(32) ! Argument; ways(9, 8) ! Index; blame = 1; proved = true; close = 2; solve = true;"
            + " least = 1000000000000001");
        run("variable; assume(0); assume(1); solve; 500 x close; literal(0); close ! State; blame = 2;"
            + " literal(0) = 2; solve = false");

        says("IllegalArgumentException, where nothing else is said: there is no such literal.");
        for (String call : new String[] {"literal", "assume", "must"}) {
            run(call + "(0) ! Argument; " + call + "(1) ! Argument; variable; " + call + "(0); " + call
                + "(1); " + call + "(2) ! Argument; " + call + "(3) ! Argument; " + call
                + "(-1) ! Argument; " + call + "(-2147483648) ! Argument; " + call
                + "(2147483647) ! Argument; variable; " + call + "(2); " + call + "(3); " + call
                + "(4) ! Argument; clear; " + call + "(0) ! Argument");
        }
    }

    // ---- Promises 1 to 5

    private void newObject() {
        says("No variables, no clauses; the clause that is written and the assumptions are empty.");
        run("least(0) ! Index; must(0) ! Argument; ways(0, 1) ! Index; ways(0, 0) = 1; solve = true;"
            + " variable = 0; literal(0) = 1; assume(0) = 1; close = 1");
        run("close = 1; solve = false; blame = 0");
        run("variable = 0; solve = true; least = 0; must(0) = 2");
    }

    private void variable() {
        says("A new variable: its number.");
        run("variable = 0; variable = 1; literal(3); close; assume(2); solve; variable = 2; must(4) = 2;"
            + " must(2) = 0; least = ---; ways(0, 3) = 4; clear; variable = 0");
        run("variable; literal(0); close = 1; literal(1) = 1; assume(0) = 1; assume(1) = 2; solve; assume(1) = 1;"
            + " variable = 1; blame = 2; proved = true; literal(1) = 2; assume(1) = 2; close = 2; must(0) = -1");
        for (int v = 1; v < 16; v++) {
            run(v + " x variable; literal(" + (2 * v - 1) + "); close; literal(" + (2 * v - 2) + "); variable"
                + " = " + v + "; must(" + (2 * v - 2) + ") = 0; must(" + 2 * v + ") = 2; literal(" + 2 * v
                + ") = 2; ways(" + (v - 1) + ", 2) = 2; close; must(" + 2 * v + ") = 1");
        }

        says("IllegalStateException: there are 16.");
        run("15 x variable; variable = 15; variable ! State; must(31) = 2; must(32) ! Argument");
        run("close; 16 x variable; solve; variable ! State; clear; variable = 0");
    }

    private void literal() {
        says("One more literal of the clause that is written: how many it has.");
        run("3 x variable; literal(0) = 1; literal(3) = 2; literal(0) = 3; solve = true; must(0) = 2;"
            + " variable; literal(6) = 4; close; literal(7) = 1; assume(1); assume(2); solve = true;"
            + " least = 0101; assume(7); assume(1); assume(2); solve = false; blame = 3");
        run("variable; literal(1) = 1; clear; variable; literal(0) = 1; close; must(0) = 1");

        says("IllegalArgumentException; IllegalStateException: it has 40, or all clauses have 4000 with"
            + " those written.");
        run("variable; literal(2) ! Argument; literal(-1) ! Argument; literal(0) = 1; 38 x literal(0);"
            + " literal(1) = 40; literal(0) ! State; literal(2) ! Argument; close = 1; must(0) = 2;"
            + " literal(0) = 1");
        String full = "2 x variable; " + "40 x literal(0); close; ".repeat(99) + "39 x literal(0); close; ";
        longRun(full + "literal(2) = 1; literal(0) ! State; literal(4) ! Argument; close = 101;"
            + " literal(0) ! State; must(2) = 1; clear; " + full + "literal(2) = 1; literal(0) ! State");
        String others = "assume(0); solve = true; least(0) = 1; blame = -1; shown; assume(1); solve = false;"
            + " least(0) = -1; blame = 1; proved; must(0) = 1; must(1) = 0; must(2) = 2; ways(0, 2) = 2;"
            + " least(16) ! Index; must(32) ! Argument; ways(0, 9) ! Argument; ways(17, 0) ! Index;"
            + " literal(32) ! Argument; 64 x assume(0); assume(0) ! State; solve = true; ";
        longRun(full + "14 x variable; variable ! State; " + others + "literal(0) = 1; literal(0) ! State; "
            + others + "variable ! State; literal(0) ! State; close; literal(0) ! State");
        longRun(full + "literal(0) = 1; solve = true; variable; assume(1) = 1; literal(0) ! State; least = 10-;"
            + " assume(1) = 2; solve = false; 13 x variable; literal(0) ! State; blame = 1");
        longRun("variable; " + "8 x literal(0); close; ".repeat(499) + "7 x literal(0); close = 500;"
            + " close ! State; literal(0) = 1; close ! State; literal(0) ! State");
    }

    private void close() {
        says("The clause that was written is one more; the next one is written then: how many there are.");
        run("2 x variable; literal(0); literal(2); close = 1; ways(0, 2) = 3; literal(3) = 1; ways(0, 2) = 3;"
            + " close = 2; ways(0, 2) = 1; must(0) = 1; literal(0) = 1; close = 3; solve = true; close = 4;"
            + " solve = false; close = 5; clear; close = 1");
        run("7 x variable; literal(12); close = 1; must(12) = 1; literal(1); close = 2; must(0) = 0;"
            + " must(12) = 1; solve; least = 0000001; literal(13); literal(0); close = 3; must(12) = -1");

        says("IllegalStateException: there are 500.");
        run("499 x close; close = 500; close ! State; close ! State; solve = false; clear; close = 1");
    }

    private void assume() {
        says("One more assumption: how many there are.");
        run("2 x variable; assume(0) = 1; assume(3) = 2; must(0) = 2; close; assume(3) = 3; solve = false;"
            + " assume(3) = 1; clear; variable; assume(0) = 1; solve = true; least = 1");

        says("IllegalArgumentException; IllegalStateException: there are 64.");
        run("variable; assume(2) ! Argument; assume(-1) ! Argument; assume(0) = 1; 62 x assume(0);"
            + " assume(1) = 64; assume(0) ! State; assume(2) ! Argument; solve = false; blame = 64;"
            + " assume(0) = 1");
    }

    // ---- Promises 6 to 8

    private void solve() {
        says("Whether there is a solution in which all assumptions are true (of the closed clauses; all"
            + " variables).");
        run("solve = true; close; solve = false");
        run("3 x variable; literal(1); literal(3); close; literal(1); literal(2); literal(5); close;"
            + " assume(0); solve = true; assume(0); assume(4); solve = false; assume(4); assume(0);"
            + " solve = false; assume(4); assume(1); solve = true; assume(2); assume(3); solve = false");
        run("2 x variable; literal(0); close; literal(1); solve = true; close; solve = false");
        run("9 x variable; literal(0); close; assume(16); solve = true; least = 100000001; assume(16);"
            + " assume(17); solve = false");

        says("The assumptions are the ASKED ones then, and there are none to be assumed.");
        run("2 x variable; assume(0); solve = true; assume(1) = 1; least = 10; solve = true; least = 00;"
            + " assume(2) = 1; assume(3) = 2; solve = false; blame = 2; solve = true; assume(0) = 1");
    }

    private void blame() {
        says("If the latest solve() answered false: the least k, so that no solution (of the clauses of"
            + " then) has the first k of the asked assumptions true; 0 when there is none at all.");
        run("4 x variable; literal(1); literal(3); close; assume(4); assume(0); assume(6); assume(2);"
            + " assume(5); solve = false; blame = 4; literal(1); close; blame = 4; assume(4); assume(0);"
            + " solve = false; blame = 2; assume(0); assume(1); solve = false; blame = 1; close; blame = 1;"
            + " assume(2); solve = false; blame = 0");
        run("2 x variable; assume(2); assume(2); assume(3); assume(0); solve = false; blame = 3;"
            + " assume(1); must(0) = 2; ways(0, 2) = 4; variable; blame = 3");

        says("NONE if it answered true, or there was none.");
        run("blame = -1; close; blame = -1; must(0) ! Argument; solve = false; blame = 0; clear; blame = -1;"
            + " solve = true; blame = -1; close; blame = -1");
        run("variable; assume(0); assume(1); solve = false; blame = 2; assume(1); solve = true; blame = -1");
    }

    private void least() {
        says("The value of a variable in the least solution in which the asked assumptions are true, if the"
            + " latest solve() answered true (of the clauses and variables of then).");
        run("3 x variable; " + TWO_ROWS + "solve = true; least = 011; assume(5); solve = true; least = 100;"
            + " literal(1); close; least = 100; assume(4); variable; least = 100-; solve = true;"
            + " least = 0110; ways(0, 3) = 1; must(6) = 2; least = 0110");
        run("16 x variable; assume(30); assume(12); assume(1); solve = true; least = 0000001000000001");

        says("NONE if it did not, or there was none, or the variable came later.");
        run("2 x variable; least = --; solve = true; least = 00; variable; least = 00-; assume(0); assume(1);"
            + " solve = false; least = ---; solve = true; least = 000; clear; variable; least = -");

        says("IndexOutOfBoundsException: there is no such variable.");
        run("least(0) ! Index; variable; least(1) ! Index; least(-1) ! Index; solve; least(0) = 0;"
            + " least(1) ! Index; least(2147483647) ! Index; least(-2147483648) ! Index; clear;"
            + " least(0) ! Index");
    }

    // ---- Promises 9 to 13

    private void must() {
        says("Whether a literal is true in all solutions (1), in none (0), or in some (2); NONE if there is"
            + " no solution.");
        run("8 x variable; literal(0); literal(14); close; must(0) = 2; must(14) = 2; must(15) = 2; assume(1);"
            + " solve = true; must(14) = 2; assume(1); must(14) = 2; literal(1); must(14) = 2; close;"
            + " must(14) = 1; must(15) = 0; must(0) = 0; must(1) = 1; must(7) = 2; literal(15); close;"
            + " must(14) = -1; must(15) = -1; must(7) = -1; must(6) = -1");

        says("IllegalArgumentException.");
        run("must(0) ! Argument; variable; must(1) = 2; must(2) ! Argument; must(-1) ! Argument; close;"
            + " must(2) ! Argument");
    }

    private void ways() {
        says("How many rows of values n variables from one on have in solutions.");
        run("3 x variable; " + TWO_ROWS + "ways(0, 3) = 2; ways(0, 2) = 2; ways(1, 2) = 2; ways(2, 1) = 2;"
            + " literal(0); close; ways(0, 3) = 1; ways(0, 0) = 1; ways(3, 0) = 1; literal(1);"
            + " ways(1, 1) = 1; close; ways(0, 3) = 0; ways(0, 1) = 0");
        run("10 x variable; literal(0); literal(18); close; ways(0, 8) = 256; ways(2, 8) = 256; literal(2);"
            + " literal(16); close; ways(1, 8) = 192; literal(1); close; ways(0, 8) = 128; ways(2, 8) = 128;"
            + " assume(17); ways(8, 2) = 2; solve; ways(8, 2) = 2; literal(19); close; ways(2, 8) = 0");
        noSolutionHasNoRowOfNoVariables();

        says("IllegalArgumentException: n is not 0 .. 8; IndexOutOfBoundsException: from is below 0, or there"
            + " are not so many from there on (for n 0 it may be the number of variables, not more).");
        run("9 x variable; ways(0, 8) = 256; ways(1, 8) = 256; ways(0, 9) ! Argument; ways(0, -1) ! Argument;"
            + " ways(2, 8) ! Index; ways(-1, 8) ! Index; ways(-1, 0) ! Index; ways(9, 0) = 1;"
            + " ways(10, 0) ! Index; ways(9, 1) ! Index; ways(8, 1) = 2; ways(2147483647, 1) ! Index;"
            + " ways(2147483640, 8) ! Index; ways(-2147483648, 0) ! Index; ways(0, 2147483647) ! Argument;"
            + " ways(0, -2147483648) ! Argument; ways(-1, 9) ! Argument");
        run("ways(0, 0) = 1; ways(1, 0) ! Index; ways(0, 1) ! Index; close; ways(0, 0) = 0; ways(1, 0) ! Index");
    }

    /** Where there is no solution, no row of values is in one, for n 0 too. */
    private void noSolutionHasNoRowOfNoVariables() {
        for (int variables = 1; variables <= 16; variables++) {
            StringBuilder calls = new StringBuilder(variables + " x variable; literal(0); close");
            calls.append("; ways(0, 0) = 1; literal(1); close");
            for (int from = 0; from <= variables; from++) {
                calls.append("; ways(").append(from).append(", 0) = 0");
            }
            calls.append("; clear; ways(0, 0) = 1");
            run(calls.toString());
        }
        run("ways(0, 0) = 1; close; ways(0, 0) = 0; variable; ways(0, 0) = 0; ways(1, 0) = 0; ways(0, 1) = 0");
    }

    private void shown() {
        says("Whether the latest solve() answered true, and the values that were found for it do make each"
            + " clause of then, and each asked assumption, true.");
        run("2 x variable; shown = false; literal(0); literal(2); close; assume(1); shown = false;"
            + " solve = true; shown = true; literal(3); close; shown = true; variable; shown = true; assume(1);"
            + " solve = false; shown = false; solve = true; shown = true; close; shown = true;"
            + " solve = false; shown = false; clear; shown = false");

        says("(Who found the answer in another way answers whether it was true.)");
        run("shown = false; solve = true; shown = true; shown = true; close; solve = false; shown = false");
    }

    private void proved() {
        says("Whether the latest solve() answered false, and those of the asked assumptions that it was"
            + " blamed on are by themselves too many, with the clauses of then.");
        run("2 x variable; proved = false; literal(1); literal(3); close; assume(0); assume(2);"
            + " proved = false; solve = false; proved = true; literal(1); close; variable; proved = true;"
            + " solve = true; proved = false; close; proved = false; solve = false; proved = true; clear;"
            + " proved = false");

        says("(Who found the answer in another way answers whether it was false.)");
        run("proved = false; solve = true; proved = false; close; solve = false; proved = true; proved = true");
    }

    private void clear() {
        says("All is gone: as at first.");
        for (String calls : new String[] {
            "3 x variable; literal(0); close; assume(1); solve; literal(2); assume(3)",
            "9 x variable; literal(16); close; solve; literal(2); assume(3)",
            "close; solve", "16 x variable; solve", "500 x close", "variable; 40 x literal(1); 64 x assume(1)"
        }) {
            Story x = new Story(sentence);
            run(x, calls + "; clear = nothing");
            x.isAsNew();
            run(x, "blame = -1; shown = false; proved = false; variable = 0; least = -; literal(0) = 1;"
                + " assume(0) = 1; must(0) = 2; close = 1");
        }
    }

    // ---- the document itself

    private void documentHasNoOtherSentence() throws IOException {
        String left = wordsOfTheDocument();
        for (String words : sentences) {
            int at = left.indexOf(words);
            Check.due("the document says: " + words, true, at >= 0);
            if (at >= 0) {
                left = left.substring(0, at) + left.substring(at + words.length());
            }
        }
        Check.same("what the document says beside", "", left.trim());
    }

    /** What stands below its headings up to "Not promised", but for the face, which FaceTest has. */
    private static String wordsOfTheDocument() throws IOException {
        StringBuilder words = new StringBuilder();
        boolean face = false;
        for (String line : Files.readAllLines(DOCUMENT)) {
            if (line.startsWith("## Not promised")) {
                break;
            }
            face = line.startsWith("```") != face;
            if (!face && !line.startsWith("#") && !line.startsWith("```")) {
                words.append(line.replaceFirst("^`[^`]*`: ", "")).append(' ');
            }
        }
        return words.toString();
    }
}
