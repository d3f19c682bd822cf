import java.lang.reflect.Constructor;
import java.lang.reflect.Field;
import java.lang.reflect.Method;
import java.lang.reflect.Modifier;
import java.util.Arrays;
import java.util.HashSet;
import java.util.Set;
import java.util.TreeSet;

/** The public face is the document's, and nothing else can be seen of the class. */
public final class FaceTest {
    private static final String[] FACE = {
        "int machine(int, int) throws IllegalArgumentException, IllegalStateException",
        "boolean move(int, int, int, int, boolean, int) throws IndexOutOfBoundsException, IllegalArgumentException",
        "boolean unset(int, int, int) throws IndexOutOfBoundsException, IllegalArgumentException",
        "int type(char) throws IllegalArgumentException, IllegalStateException",
        "int wipe()",
        "int read() throws IllegalArgumentException, IllegalStateException",
        "char code(int, int) throws IndexOutOfBoundsException",
        "boolean areAlike(int, int) throws IndexOutOfBoundsException",
        "int run(int, int) throws IndexOutOfBoundsException, IllegalArgumentException",
        "char outcome() throws NoSuchElementException",
        "int marks() throws NoSuchElementException",
        "int space() throws NoSuchElementException",
        "int rows() throws NoSuchElementException",
        "int sign(int) throws NoSuchElementException",
        "int head() throws NoSuchElementException",
        "boolean prove(int, char, int) throws IndexOutOfBoundsException, IllegalArgumentException",
        "char known(int) throws IndexOutOfBoundsException",
        "int certificate(int, int) throws IndexOutOfBoundsException, NoSuchElementException",
        "boolean check(int) throws IndexOutOfBoundsException, NoSuchElementException",
        "int list(int, int, int) throws IllegalArgumentException",
        "int next() throws NoSuchElementException, IllegalStateException",
        "int record(int, int) throws NoSuchElementException",
        "int undecided(int, int)",
        "float knownShare() throws ArithmeticException",
        "double meanSteps() throws ArithmeticException",
        "boolean isSound()",
    };

    public static void main(String[] args) {
        Set<String> seen = new TreeSet<>();
        Set<String> publicNames = new HashSet<>();
        for (Method method : BeaverPond.class.getDeclaredMethods()) {
            if (Modifier.isPublic(method.getModifiers())) {
                seen.add(told(method));
                publicNames.add(method.getName());
            }
        }
        Due.same(new TreeSet<>(Arrays.asList(FACE)), "the public methods", seen);
        Due.same(true, "BeaverPond is public and final", BeaverPond.class.getModifiers() == (Modifier.PUBLIC | Modifier.FINAL));
        for (Method method : BeaverPond.class.getDeclaredMethods()) {
            if (!Modifier.isPublic(method.getModifiers())) {
                Due.same(true, method + " is private", Modifier.isPrivate(method.getModifiers()));
                Due.same(false, method + " bears the name of a public one", publicNames.contains(method.getName()));
            }
        }
        for (Field field : BeaverPond.class.getDeclaredFields()) {
            Due.same(true, field + " is private", Modifier.isPrivate(field.getModifiers()));
        }
        Constructor<?>[] constructors = BeaverPond.class.getDeclaredConstructors();
        Due.same(1, "the number of constructors", constructors.length);
        Due.same("public BeaverPond()", "the constructor", constructors[0].toString());
        for (Class<?> inside : BeaverPond.class.getDeclaredClasses()) {
            Due.same(true, inside + " is private and static",
                Modifier.isPrivate(inside.getModifiers()) && Modifier.isStatic(inside.getModifiers()));
        }
        Due.end("FaceTest");
    }

    private static String told(Method method) {
        StringBuilder text = new StringBuilder();
        text.append(method.getReturnType()).append(' ').append(method.getName()).append('(');
        String between = "";
        for (Class<?> type : method.getParameterTypes()) {
            text.append(between).append(type);
            between = ", ";
        }
        text.append(')');
        between = " throws ";
        for (Class<?> type : method.getExceptionTypes()) {
            text.append(between).append(type.getSimpleName());
            between = ", ";
        }
        return text.toString();
    }
}
