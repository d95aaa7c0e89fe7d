import java.lang.reflect.Constructor;
import java.lang.reflect.Field;
import java.lang.reflect.Method;
import java.lang.reflect.Modifier;
import java.util.Arrays;
import java.util.TreeSet;

/** The members that can be seen from outside are those of the document, and no others. */
public final class FaceTest {
    private static final String[] FACE = {
        "public static final int LearningSolver.NONE",
        "public LearningSolver()",
        "public int LearningSolver.variable() throws java.lang.IllegalStateException",
        "public int LearningSolver.literal(int) throws java.lang.IllegalArgumentException,java.lang.IllegalStateException",
        "public int LearningSolver.close() throws java.lang.IllegalStateException",
        "public int LearningSolver.assume(int) throws java.lang.IllegalArgumentException,java.lang.IllegalStateException",
        "public boolean LearningSolver.solve()",
        "public int LearningSolver.blame()",
        "public int LearningSolver.least(int) throws java.lang.IndexOutOfBoundsException",
        "public int LearningSolver.must(int) throws java.lang.IllegalArgumentException",
        "public int LearningSolver.ways(int,int) throws java.lang.IllegalArgumentException,java.lang.IndexOutOfBoundsException",
        "public boolean LearningSolver.shown()",
        "public boolean LearningSolver.proved()",
        "public void LearningSolver.clear()",
    };

    public static void main(String[] args) {
        TreeSet<String> seen = new TreeSet<>();
        for (Constructor<?> c : LearningSolver.class.getDeclaredConstructors()) {
            if (!Modifier.isPrivate(c.getModifiers())) {
                seen.add(c.toString());
            }
        }
        for (Method m : LearningSolver.class.getDeclaredMethods()) {
            if (!Modifier.isPrivate(m.getModifiers())) {
                seen.add(m.toString());
            }
        }
        for (Field f : LearningSolver.class.getDeclaredFields()) {
            if (!Modifier.isPrivate(f.getModifiers())) {
                seen.add(f.toString());
            }
        }
        Check.same("the face", new TreeSet<>(Arrays.asList(FACE)), seen);
        Check.same("the class", Modifier.PUBLIC | Modifier.FINAL, LearningSolver.class.getModifiers());
        Check.same("NONE", -1, LearningSolver.NONE);
        for (Class<?> inside : LearningSolver.class.getDeclaredClasses()) {
            Check.due(inside.getName() + " is static", true, Modifier.isStatic(inside.getModifiers()));
        }
        Check.end();
    }
}
