import java.lang.reflect.Constructor;
import java.lang.reflect.Field;
import java.lang.reflect.Method;
import java.lang.reflect.Modifier;
import java.util.Set;
import java.util.TreeSet;

/** The public face: just the document's constructor and methods, with their signatures. */
final class FaceTest {
    private static final Set<String> FACE = Set.of(
            "public int SortedRun.add(int,long) throws "
                    + "java.lang.IllegalArgumentException,java.lang.IllegalStateException",
            "public int SortedRun.write()",
            "public int SortedRun.at(int) throws java.lang.IndexOutOfBoundsException",
            "public int SortedRun.damage(int,int) throws java.lang.IndexOutOfBoundsException",
            "public void SortedRun.cut(int) throws java.lang.IllegalArgumentException",
            "public int SortedRun.open() throws java.lang.ArithmeticException",
            "public long SortedRun.get(int) throws java.lang.IllegalStateException,"
                    + "java.lang.ArithmeticException,java.util.NoSuchElementException",
            "public int SortedRun.entries(int) throws java.lang.IllegalStateException,"
                    + "java.lang.IndexOutOfBoundsException,java.lang.ArithmeticException",
            "public int SortedRun.key(int,int) throws java.lang.IllegalStateException,"
                    + "java.lang.IndexOutOfBoundsException,java.lang.ArithmeticException",
            "public int SortedRun.size()");

    public static void main(String[] args) {
        Check check = new Check();
        int modifiers = SortedRun.class.getModifiers();
        check.holds("public and final", Modifier.isPublic(modifiers) && Modifier.isFinal(modifiers));
        Constructor<?>[] constructors = SortedRun.class.getDeclaredConstructors();
        check.answers("constructors", 1, () -> constructors.length);
        check.same("the constructor", "public SortedRun()", constructors[0].toString());
        Set<String> visible = new TreeSet<>();
        for (Method method : SortedRun.class.getDeclaredMethods()) {
            if (!Modifier.isPrivate(method.getModifiers())) {
                visible.add(method.toString());
            }
        }
        check.same("the methods", new TreeSet<>(FACE).toString(), visible.toString());
        for (Field field : SortedRun.class.getDeclaredFields()) {
            check.holds("private: " + field, Modifier.isPrivate(field.getModifiers()));
        }
        check.end();
    }
}
