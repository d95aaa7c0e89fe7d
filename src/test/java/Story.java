import java.util.ArrayList;
import java.util.Arrays;
import java.util.List;

/**
 * A run of calls on one new object, each call written as text: "ways(0, 8)". It remembers the calls
 * that were taken, so that it can tell them to other objects: one with a refused call more and one
 * without it must answer the same ever after.
 */
final class Story {
    static final String ARGUMENT = "throws.IllegalArgumentException";
    static final String STATE = "throws.IllegalStateException";
    static final String INDEX = "throws.IndexOutOfBoundsException";
    static final String NONE = String.valueOf(LearningSolver.NONE);

    private static final int MOST_CALLS = 512;

    private final String sentence;
    private final LearningSolver solver = new LearningSolver();
    private final List<String> taken = new ArrayList<>();
    private int mostCalls = MOST_CALLS;
    private int calls = 0;

    /** The sentence of the document that the story is a test of. */
    Story(String sentence, String... calls) {
        this.sentence = sentence;
        take(calls);
    }

    /** For the edges that no run of 512 calls can meet. */
    Story ofAnyLength() {
        mostCalls = Integer.MAX_VALUE;
        return this;
    }

    /** Calls whose answers another test looks at; they must not throw. */
    Story take(String... texts) {
        for (String text : texts) {
            String got = make(text);
            if (got.startsWith("throws.")) {
                Check.same(sentence + ": " + text + " is taken", "an answer", got);
            }
            taken.add(text);
        }
        return this;
    }

    /** The same call so many times. */
    Story times(int count, String text) {
        for (int i = 0; i < count; i++) {
            take(text);
        }
        return this;
    }

    Story due(Object want, String text) {
        Check.same(sentence + ": call " + (calls + 1) + ", " + text, String.valueOf(want), make(text));
        taken.add(text);
        return this;
    }

    /** The values of the least solution, "-" where there is none. */
    Story leastIs(String want) {
        StringBuilder row = new StringBuilder();
        for (int v = 0; v < variables(); v++) {
            String got = make("least(" + v + ")");
            row.append(got.equals(NONE) ? "-" : got);
        }
        Check.same(sentence + ": the least solution", want, row.toString());
        return this;
    }

    /** The call throws just this, and all is then as if it had not been made. */
    Story refused(String exception, String text) {
        return throwsOften(1, exception, text).changesNothing(text);
    }

    /** All later answers are those of an object on which the call was not made. */
    Story changesNothing(String text) {
        List<String> withIt = new ArrayList<>(taken);
        withIt.add(text);
        for (List<String> later : laterCalls(variables())) {
            sameAnswers("after " + text, taken, withIt, later);
        }
        return this;
    }

    /** The call throws just this, so many times. */
    Story throwsOften(int count, String exception, String text) {
        for (int i = 0; i < count; i++) {
            Check.same(sentence + ": call " + (calls + 1) + ", " + text, exception, make(text));
        }
        return this;
    }

    /** All later answers are those of an object that was just made. */
    void isAsNew() {
        for (int n = 0; n < 3; n++) {
            for (List<String> later : laterCalls(n)) {
                sameAnswers("as new", new ArrayList<>(), taken, later);
            }
        }
    }

    int variables() {
        int n = 0;
        for (String text : taken) {
            n = text.equals("clear()") ? 0 : text.equals("variable()") ? n + 1 : n;
        }
        return n;
    }

    /** How many calls the object has seen. */
    int calls() {
        return calls;
    }

    private String make(String text) {
        calls++;
        if (calls > mostCalls) {
            throw new AssertionError(sentence + ": a story of more than 512 calls");
        }
        return answer(solver, text);
    }

    /** What the later calls answer on an object with the one run behind it and with the other. */
    private void sameAnswers(String why, List<String> plain, List<String> other, List<String> later) {
        int room = Math.max(0, mostCalls - Math.max(plain.size(), other.size()));
        List<String> fit = later.subList(0, Math.min(room, later.size()));
        List<String> want = answers(plain, fit);
        List<String> got = answers(other, fit);
        int i = 0;
        while (i + 1 < want.size() && want.get(i).equals(got.get(i))) {
            i++;
        }
        if (!want.isEmpty()) {
            String place = " behind call " + taken.size() + ", then " + fit.subList(0, i);
            Check.same(sentence + ": " + why + place, want.get(i), got.get(i));
        }
    }

    private static List<String> answers(List<String> before, List<String> later) {
        LearningSolver x = new LearningSolver();
        for (String text : before) {
            answer(x, text);
        }
        List<String> all = new ArrayList<>();
        for (String text : later) {
            all.add(text + " " + answer(x, text));
        }
        return all;
    }

    /** Runs of calls that together look at all that an object with n variables holds. */
    private static List<List<String>> laterCalls(int n) {
        List<List<String>> all = new ArrayList<>();
        all.add(Arrays.asList("blame()", "shown()", "proved()", "least(0)", "ways(0, 0)", "must(1)"));
        all.add(Arrays.asList("variable()", "least(" + n + ")", "must(" + 2 * n + ")", "variable()"));
        all.add(Arrays.asList("literal(0)", "close()", "ways(0, 1)", "literal(1)", "solve()"));
        all.add(Arrays.asList("assume(1)", "solve()", "blame()", "least(0)", "assume(0)"));
        all.add(Arrays.asList("solve()", "blame()", "shown()", "proved()", "least(0)", "literal(0)"));
        all.add(Arrays.asList("close()", "literal(0)", "literal(0)", "solve()", "blame()", "close()"));
        all.add(Arrays.asList("clear()", "blame()", "shown()", "least(0)", "solve()", "variable()",
            "literal(0)", "assume(0)", "close()"));
        all.add(leastOfEach(n));
        all.add(look(n));
        all.add(joined(Arrays.asList("solve()"), look(n)));
        all.add(joined(Arrays.asList("close()", "solve()"), look(n)));
        all.add(joined(many(42, "literal(0)"), Arrays.asList("close()"), look(n)));
        all.add(joined(many(66, "assume(1)"), Arrays.asList("solve()"), look(n)));
        all.add(joined(many(18, "variable()"), look(16)));
        return all;
    }

    private static List<String> leastOfEach(int n) {
        List<String> all = new ArrayList<>();
        for (int v = 0; v < n; v++) {
            all.add("least(" + v + ")");
        }
        return all;
    }

    private static List<String> look(int n) {
        List<String> all = new ArrayList<>(Arrays.asList("blame()", "shown()", "proved()"));
        for (int v = 0; v < n; v++) {
            all.add("least(" + v + ")");
            all.add("must(" + 2 * v + ")");
            all.add("must(" + (2 * v + 1) + ")");
            all.add("ways(" + v + ", " + Math.min(8, n - v) + ")");
        }
        all.add("ways(" + n + ", 0)");
        return all;
    }

    private static List<String> many(int count, String text) {
        List<String> all = new ArrayList<>();
        for (int i = 0; i < count; i++) {
            all.add(text);
        }
        return all;
    }

    @SafeVarargs
    private static List<String> joined(List<String>... parts) {
        List<String> all = new ArrayList<>();
        for (List<String> part : parts) {
            all.addAll(part);
        }
        return all;
    }

    private static String answer(LearningSolver x, String text) {
        int open = text.indexOf('(');
        String inside = text.substring(open + 1, text.length() - 1);
        String[] parts = inside.isEmpty() ? new String[0] : inside.split(", ");
        int[] a = new int[parts.length];
        for (int i = 0; i < a.length; i++) {
            a[i] = Integer.parseInt(parts[i]);
        }
        try {
            return answer(x, text.substring(0, open), a);
        } catch (RuntimeException e) {
            // The exact class: those of the machine are classes below the document's ones.
            return "throws." + e.getClass().getName().replaceFirst("^java\\.lang\\.", "");
        }
    }

    private static String answer(LearningSolver x, String name, int[] a) {
        switch (name) {
            case "variable": return String.valueOf(x.variable());
            case "literal": return String.valueOf(x.literal(a[0]));
            case "close": return String.valueOf(x.close());
            case "assume": return String.valueOf(x.assume(a[0]));
            case "solve": return String.valueOf(x.solve());
            case "blame": return String.valueOf(x.blame());
            case "least": return String.valueOf(x.least(a[0]));
            case "must": return String.valueOf(x.must(a[0]));
            case "ways": return String.valueOf(x.ways(a[0], a[1]));
            case "shown": return String.valueOf(x.shown());
            case "proved": return String.valueOf(x.proved());
            case "clear": x.clear(); return "nothing";
            default: throw new AssertionError(name);
        }
    }
}
